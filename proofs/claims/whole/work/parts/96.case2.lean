theorem w_leader {κ : Kx} {b L bo k n : Nat} {xs : Nat → Int32} {adT adM : Nat → Nat} {i : Int} {τ σ : S0} {f : Int → Int} (hh : LH κ b L xs i k n) (h : REL τ σ) (kk : LK κ b bo adT adM i k n) : X κ room_1 rc_L cd_L_law 8 (WD κ.2.2.1.2.2 adT adM bo (τ, f) σ) k n 500 (lvL b bo adT adM i) [] := by
  obtain ⟨Z, N9, hX, i0, i4, hk, hn⟩ := hh
  refine x_aload_n dx_L_law_500 rfl rfl ?_
  refine x_aload_n dx_L_law_501 rfl rfl ?_
  refine x_iload dx_L_law_502 rfl ?_
  refine x_iconst dx_L_law_504 ?_
  refine x_iadd dx_L_law_505 ?_
  refine x_sld hX (by omega) (by omega) dx_L_law_506 ?_
  refine x_aload_n dx_L_law_507 rfl rfl ?_
  refine x_sw (c_L_leader (wA := wg 16 LM κ.2.2.1.2.2 adM σ) (e1 := σ.2.1 5) (e2 := σ.2.1 6) h.1 (sx_rg xs (i + 1))) sw_L_97 Z N9 ⟨rfl, rfl, by decide, by decide⟩ ⟨by show k + 1 ≤ 601024; omega, by show n + 6 ≤ 7293034; omega⟩ rfl (Nat.le_of_ble_eq_true rfl) dx_L_law_508 (fun k9 u hc => ?_)
  refine x_istore dx_L_law_511 (by decide) ?_
  refine x_aload_n dx_L_law_513 rfl rfl ?_
  refine x_aload_n dx_L_law_514 rfl rfl ?_
  refine x_iload dx_L_law_515 rfl ?_
  refine x_iconst dx_L_law_517 ?_
  refine x_iadd dx_L_law_518 ?_
  refine x_sld hX (by omega) (by omega) dx_L_law_519 ?_
  refine x_w wd_wr ?_
  refine x_cvi1 (fr_ci [] _ (c_M_leader h (sx_rg xs (i + 1)))) cf_L_99 ⟨rfl, rfl, by decide, by decide⟩ ⟨by show k + 1 ≤ 601024; omega, by show n + 6 ≤ 7293034; omega⟩ wr_at rfl rfl (Nat.le_of_ble_eq_true rfl) dx_L_law_520 (fun z9 σ' hm => ?_)
  refine x_istore dx_L_law_523 (by decide) ?_
  refine x_aload_n dx_L_law_525 rfl rfl ?_
  refine x_cvi0 (fr_ci [] _ c_M_thrown) cf_L_72 ⟨rfl, rfl, by decide, by decide⟩ ⟨by show k + 1 ≤ 601024; omega, by show n + 6 ≤ 7293034; omega⟩ (wr_at (u := u)) rfl rfl (Nat.le_of_ble_eq_true rfl) dx_L_law_526 (fun t9 σ2 ht => ?_)
  obtain ⟨ht, rfl⟩ := ht
  obtain ⟨hR, he, hv⟩ := lq_look hc hm
  have rk : Rg k9 := by rw [← he]; exact hR.2.1.1 0
  have et : t9 = k9 := ht.symm.trans he
  refine x_w (w' := WD κ.2.2.1.2.2 adT adM bo u σ') rfl ?_
  refine x_iload dx_L_law_529 rfl ?_
  refine x_icmp_eq (tgt := 536) dx_L_law_531 (by decide) (by rw [et]; exact rk) rk (fun _ => ?_) (fun q => absurd et q)
  refine x_iload dx_L_law_536 rfl ?_
  have fin : X κ room_1 rc_L cd_L_law 8 (WD κ.2.2.1.2.2 adT adM bo u σ') (k + 1) (n + 6) 965 (lvL b bo adT adM i) [] := x_widen (by omega) (by omega) (kk u σ' hR)
  refine x_if_ne (tgt := 553) dx_L_law_538 (by decide) rk (fun _ => ?_) (fun k0 => ?_)
  · refine x_goto (tgt := 965) dx_L_law_553 (by decide) ?_
    exact x_lv (lvL b bo adT adM i) rfl fin
  · refine x_aload_n dx_L_law_541 rfl rfl ?_
    refine x_iconst dx_L_law_542 ?_
    refine x_laldO dx_L_law_543 ?_
    have ev : u.2 0 = sI z9 := hv k0
    rw [ev]
    refine x_iload dx_L_law_544 rfl ?_
    refine x_i2s dx_L_law_546 ?_
    refine x_lcmpE dx_L_law_547 ?_
    refine x_if_eq (tgt := 553) dx_L_law_548 (by decide) Rg_0 (fun _ => ?_) (fun q => absurd rfl q)
    refine x_goto (tgt := 965) dx_L_law_553 (by decide) ?_
    exact x_lv (lvL b bo adT adM i) rfl fin
theorem w_size {κ : Kx} {b L bo k n : Nat} {xs : Nat → Int32} {adT adM : Nat → Nat} {i : Int} {τ σ : S0} {f : Int → Int} (hh : LH κ b L xs i k n) (h : REL τ σ) (kk : LK κ b bo adT adM i k n) : X κ room_1 rc_L cd_L_law 8 (WD κ.2.2.1.2.2 adT adM bo (τ, f) σ) k n 556 (lvL b bo adT adM i) [] := by
  obtain ⟨Z, N9, hX, i0, i4, hk, hn⟩ := hh
  refine x_aload_n dx_L_law_556 rfl rfl ?_
  refine x_aload_n dx_L_law_557 rfl rfl ?_
  refine x_iload dx_L_law_558 rfl ?_
  refine x_iconst dx_L_law_560 ?_
  refine x_iadd dx_L_law_561 ?_
  refine x_sld hX (by omega) (by omega) dx_L_law_562 ?_
  refine x_aload_n dx_L_law_563 rfl rfl ?_
  refine x_sw (c_L_size (wA := wg 16 LM κ.2.2.1.2.2 adM σ) (e1 := σ.2.1 5) (e2 := σ.2.1 6) h.1 (sx_rg xs (i + 1))) sw_L_100 Z N9 ⟨rfl, rfl, by decide, by decide⟩ ⟨by show k + 1 ≤ 601024; omega, by show n + 6 ≤ 7293034; omega⟩ rfl (Nat.le_of_ble_eq_true rfl) dx_L_law_564 (fun k9 u hc => ?_)
  refine x_istore dx_L_law_567 (by decide) ?_
  refine x_aload_n dx_L_law_569 rfl rfl ?_
  refine x_aload_n dx_L_law_570 rfl rfl ?_
  refine x_iload dx_L_law_571 rfl ?_
  refine x_iconst dx_L_law_573 ?_
  refine x_iadd dx_L_law_574 ?_
  refine x_sld hX (by omega) (by omega) dx_L_law_575 ?_
  refine x_w wd_wr ?_
  refine x_cvl1 (fr_cl [] _ (c_M_size h (sx_rg xs (i + 1)))) cf_L_102 ⟨rfl, rfl, by decide, by decide⟩ ⟨by show k + 1 ≤ 601024; omega, by show n + 6 ≤ 7293034; omega⟩ wr_at rfl rfl (Nat.le_of_ble_eq_true rfl) dx_L_law_576 (fun z9 σ' hm => ?_)
  refine x_lstore dx_L_law_579 (by decide) ?_
  refine x_aload_n dx_L_law_581 rfl rfl ?_
  refine x_cvi0 (fr_ci [] _ c_M_thrown) cf_L_72 ⟨rfl, rfl, by decide, by decide⟩ ⟨by show k + 1 ≤ 601024; omega, by show n + 6 ≤ 7293034; omega⟩ (wr_at (u := u)) rfl rfl (Nat.le_of_ble_eq_true rfl) dx_L_law_582 (fun t9 σ2 ht => ?_)
  obtain ⟨ht, rfl⟩ := ht
  obtain ⟨hR, he, hv⟩ := lq_look hc hm
  have rk : Rg k9 := by rw [← he]; exact hR.2.1.1 0
  have et : t9 = k9 := ht.symm.trans he
  refine x_w (w' := WD κ.2.2.1.2.2 adT adM bo u σ') rfl ?_
  refine x_iload dx_L_law_585 rfl ?_
  refine x_icmp_eq (tgt := 592) dx_L_law_587 (by decide) (by rw [et]; exact rk) rk (fun _ => ?_) (fun q => absurd et q)
  refine x_iload dx_L_law_592 rfl ?_
  have fin : X κ room_1 rc_L cd_L_law 8 (WD κ.2.2.1.2.2 adT adM bo u σ') (k + 1) (n + 6) 965 (lvL b bo adT adM i) [] := x_widen (by omega) (by omega) (kk u σ' hR)
  refine x_if_ne (tgt := 608) dx_L_law_594 (by decide) rk (fun _ => ?_) (fun k0 => ?_)
  · refine x_goto (tgt := 965) dx_L_law_608 (by decide) ?_
    exact x_lv (lvL b bo adT adM i) rfl fin
  · refine x_aload_n dx_L_law_597 rfl rfl ?_
    refine x_iconst dx_L_law_598 ?_
    refine x_laldO dx_L_law_599 ?_
    have ev : u.2 0 = z9 := hv k0
    rw [ev]
    refine x_lload dx_L_law_600 rfl ?_
    refine x_lcmpE dx_L_law_602 ?_
    refine x_if_eq (tgt := 608) dx_L_law_603 (by decide) Rg_0 (fun _ => ?_) (fun q => absurd rfl q)
    refine x_goto (tgt := 965) dx_L_law_608 (by decide) ?_
    exact x_lv (lvL b bo adT adM i) rfl fin
theorem w_depth {κ : Kx} {b L bo k n : Nat} {xs : Nat → Int32} {adT adM : Nat → Nat} {i : Int} {τ σ : S0} {f : Int → Int} (hh : LH κ b L xs i k n) (h : REL τ σ) (kk : LK κ b bo adT adM i k n) : X κ room_1 rc_L cd_L_law 8 (WD κ.2.2.1.2.2 adT adM bo (τ, f) σ) k n 611 (lvL b bo adT adM i) [] := by
  obtain ⟨Z, N9, hX, i0, i4, hk, hn⟩ := hh
  refine x_aload_n dx_L_law_611 rfl rfl ?_
  refine x_aload_n dx_L_law_612 rfl rfl ?_
  refine x_iload dx_L_law_613 rfl ?_
  refine x_iconst dx_L_law_615 ?_
  refine x_iadd dx_L_law_616 ?_
  refine x_sld hX (by omega) (by omega) dx_L_law_617 ?_
  refine x_aload_n dx_L_law_618 rfl rfl ?_
  refine x_sw (c_L_depth (wA := wg 16 LM κ.2.2.1.2.2 adM σ) (e1 := σ.2.1 5) (e2 := σ.2.1 6) h.1 (sx_rg xs (i + 1))) sw_L_103 Z N9 ⟨rfl, rfl, by decide, by decide⟩ ⟨by show k + 1 ≤ 601024; omega, by show n + 6 ≤ 7293034; omega⟩ rfl (Nat.le_of_ble_eq_true rfl) dx_L_law_619 (fun k9 u hc => ?_)
  refine x_istore dx_L_law_622 (by decide) ?_
  refine x_aload_n dx_L_law_624 rfl rfl ?_
  refine x_aload_n dx_L_law_625 rfl rfl ?_
  refine x_iload dx_L_law_626 rfl ?_
  refine x_iconst dx_L_law_628 ?_
  refine x_iadd dx_L_law_629 ?_
  refine x_sld hX (by omega) (by omega) dx_L_law_630 ?_
  refine x_w wd_wr ?_
  refine x_cvi1 (fr_ci [] _ (c_M_depth h (sx_rg xs (i + 1)))) cf_L_105 ⟨rfl, rfl, by decide, by decide⟩ ⟨by show k + 1 ≤ 601024; omega, by show n + 6 ≤ 7293034; omega⟩ wr_at rfl rfl (Nat.le_of_ble_eq_true rfl) dx_L_law_631 (fun z9 σ' hm => ?_)
  refine x_istore dx_L_law_634 (by decide) ?_
  refine x_aload_n dx_L_law_636 rfl rfl ?_
  refine x_cvi0 (fr_ci [] _ c_M_thrown) cf_L_72 ⟨rfl, rfl, by decide, by decide⟩ ⟨by show k + 1 ≤ 601024; omega, by show n + 6 ≤ 7293034; omega⟩ (wr_at (u := u)) rfl rfl (Nat.le_of_ble_eq_true rfl) dx_L_law_637 (fun t9 σ2 ht => ?_)
  obtain ⟨ht, rfl⟩ := ht
  obtain ⟨hR, he, hv⟩ := lq_look hc hm
  have rk : Rg k9 := by rw [← he]; exact hR.2.1.1 0
  have et : t9 = k9 := ht.symm.trans he
  refine x_w (w' := WD κ.2.2.1.2.2 adT adM bo u σ') rfl ?_
  refine x_iload dx_L_law_640 rfl ?_
  refine x_icmp_eq (tgt := 647) dx_L_law_642 (by decide) (by rw [et]; exact rk) rk (fun _ => ?_) (fun q => absurd et q)
  refine x_iload dx_L_law_647 rfl ?_
  have fin : X κ room_1 rc_L cd_L_law 8 (WD κ.2.2.1.2.2 adT adM bo u σ') (k + 1) (n + 6) 965 (lvL b bo adT adM i) [] := x_widen (by omega) (by omega) (kk u σ' hR)
  refine x_if_ne (tgt := 664) dx_L_law_649 (by decide) rk (fun _ => ?_) (fun k0 => ?_)
  · refine x_goto (tgt := 965) dx_L_law_664 (by decide) ?_
    exact x_lv (lvL b bo adT adM i) rfl fin
  · refine x_aload_n dx_L_law_652 rfl rfl ?_
    refine x_iconst dx_L_law_653 ?_
    refine x_laldO dx_L_law_654 ?_
    have ev : u.2 0 = sI z9 := hv k0
    rw [ev]
    refine x_iload dx_L_law_655 rfl ?_
    refine x_i2s dx_L_law_657 ?_
    refine x_lcmpE dx_L_law_658 ?_
    refine x_if_eq (tgt := 664) dx_L_law_659 (by decide) Rg_0 (fun _ => ?_) (fun q => absurd rfl q)
    refine x_goto (tgt := 965) dx_L_law_664 (by decide) ?_
    exact x_lv (lvL b bo adT adM i) rfl fin
theorem w_variables {κ : Kx} {b L bo k n : Nat} {xs : Nat → Int32} {adT adM : Nat → Nat} {i : Int} {τ σ : S0} {f : Int → Int} (hh : LH κ b L xs i k n) (h : REL τ σ) (kk : LK κ b bo adT adM i k n) : X κ room_1 rc_L cd_L_law 8 (WD κ.2.2.1.2.2 adT adM bo (τ, f) σ) k n 667 (lvL b bo adT adM i) [] := by
  obtain ⟨Z, N9, hX, i0, i4, hk, hn⟩ := hh
  refine x_aload_n dx_L_law_667 rfl rfl ?_
  refine x_aload_n dx_L_law_668 rfl rfl ?_
  refine x_iload dx_L_law_669 rfl ?_
  refine x_iconst dx_L_law_671 ?_
  refine x_iadd dx_L_law_672 ?_
  refine x_sld hX (by omega) (by omega) dx_L_law_673 ?_
  refine x_aload_n dx_L_law_674 rfl rfl ?_
  refine x_sw (c_L_variables (wA := wg 16 LM κ.2.2.1.2.2 adM σ) (e1 := σ.2.1 5) (e2 := σ.2.1 6) h.1 (sx_rg xs (i + 1))) sw_L_106 Z N9 ⟨rfl, rfl, by decide, by decide⟩ ⟨by show k + 1 ≤ 601024; omega, by show n + 6 ≤ 7293034; omega⟩ rfl (Nat.le_of_ble_eq_true rfl) dx_L_law_675 (fun k9 u hc => ?_)
  refine x_istore dx_L_law_678 (by decide) ?_
  refine x_aload_n dx_L_law_680 rfl rfl ?_
  refine x_aload_n dx_L_law_681 rfl rfl ?_
  refine x_iload dx_L_law_682 rfl ?_
  refine x_iconst dx_L_law_684 ?_
  refine x_iadd dx_L_law_685 ?_
  refine x_sld hX (by omega) (by omega) dx_L_law_686 ?_
  refine x_w wd_wr ?_
  refine x_cvi1 (fr_ci [] _ (c_M_variables h (sx_rg xs (i + 1)))) cf_L_108 ⟨rfl, rfl, by decide, by decide⟩ ⟨by show k + 1 ≤ 601024; omega, by show n + 6 ≤ 7293034; omega⟩ wr_at rfl rfl (Nat.le_of_ble_eq_true rfl) dx_L_law_687 (fun z9 σ' hm => ?_)
  refine x_istore dx_L_law_690 (by decide) ?_
  refine x_aload_n dx_L_law_692 rfl rfl ?_
  refine x_cvi0 (fr_ci [] _ c_M_thrown) cf_L_72 ⟨rfl, rfl, by decide, by decide⟩ ⟨by show k + 1 ≤ 601024; omega, by show n + 6 ≤ 7293034; omega⟩ (wr_at (u := u)) rfl rfl (Nat.le_of_ble_eq_true rfl) dx_L_law_693 (fun t9 σ2 ht => ?_)
  obtain ⟨ht, rfl⟩ := ht
  obtain ⟨hR, he, hv⟩ := lq_look hc hm
  have rk : Rg k9 := by rw [← he]; exact hR.2.1.1 0
  have et : t9 = k9 := ht.symm.trans he
  refine x_w (w' := WD κ.2.2.1.2.2 adT adM bo u σ') rfl ?_
  refine x_iload dx_L_law_696 rfl ?_
  refine x_icmp_eq (tgt := 703) dx_L_law_698 (by decide) (by rw [et]; exact rk) rk (fun _ => ?_) (fun q => absurd et q)
  refine x_iload dx_L_law_703 rfl ?_
  have fin : X κ room_1 rc_L cd_L_law 8 (WD κ.2.2.1.2.2 adT adM bo u σ') (k + 1) (n + 6) 965 (lvL b bo adT adM i) [] := x_widen (by omega) (by omega) (kk u σ' hR)
  refine x_if_ne (tgt := 720) dx_L_law_705 (by decide) rk (fun _ => ?_) (fun k0 => ?_)
  · refine x_goto (tgt := 965) dx_L_law_720 (by decide) ?_
    exact x_lv (lvL b bo adT adM i) rfl fin
  · refine x_aload_n dx_L_law_708 rfl rfl ?_
    refine x_iconst dx_L_law_709 ?_
    refine x_laldO dx_L_law_710 ?_
    have ev : u.2 0 = sI z9 := hv k0
    rw [ev]
    refine x_iload dx_L_law_711 rfl ?_
    refine x_i2s dx_L_law_713 ?_
    refine x_lcmpE dx_L_law_714 ?_
    refine x_if_eq (tgt := 720) dx_L_law_715 (by decide) Rg_0 (fun _ => ?_) (fun q => absurd rfl q)
    refine x_goto (tgt := 965) dx_L_law_720 (by decide) ?_
    exact x_lv (lvL b bo adT adM i) rfl fin
theorem w_at {κ : Kx} {b L bo k n : Nat} {xs : Nat → Int32} {adT adM : Nat → Nat} {i : Int} {τ σ : S0} {f : Int → Int} (hh : LH κ b L xs i k n) (h : REL τ σ) (kk : LK κ b bo adT adM i k n) : X κ room_1 rc_L cd_L_law 8 (WD κ.2.2.1.2.2 adT adM bo (τ, f) σ) k n 723 (lvL b bo adT adM i) [] := by
  obtain ⟨Z, N9, hX, i0, i4, hk, hn⟩ := hh
  refine x_aload_n dx_L_law_723 rfl rfl ?_
  refine x_aload_n dx_L_law_724 rfl rfl ?_
  refine x_iload dx_L_law_725 rfl ?_
  refine x_iconst dx_L_law_727 ?_
  refine x_iadd dx_L_law_728 ?_
  refine x_sld hX (by omega) (by omega) dx_L_law_729 ?_
  refine x_aload_n dx_L_law_730 rfl rfl ?_
  refine x_iload dx_L_law_731 rfl ?_
  refine x_iconst dx_L_law_733 ?_
  refine x_iadd dx_L_law_734 ?_
  refine x_sld hX (by omega) (by omega) dx_L_law_735 ?_
  refine x_i2l dx_L_law_736 (sx_rg xs _) ?_
  refine x_bipush (z := 32) dx_L_law_737 (by decide) ?_
  refine x_lshl dx_L_law_739 (zL_sL _).symm ?_
  refine x_aload_n dx_L_law_740 rfl rfl ?_
  refine x_iload dx_L_law_741 rfl ?_
  refine x_iconst dx_L_law_743 ?_
  refine x_iadd dx_L_law_744 ?_
  refine x_sld hX (by omega) (by omega) dx_L_law_745 ?_
  refine x_i2l dx_L_law_746 (sx_rg xs _) ?_
  refine x_ldc2 (z := 4294967295) dx_L_law_747 kk_L_109 (by decide) ?_
  refine x_land dx_L_law_750 (zL_sL _).symm ?_
  refine x_lor dx_L_law_751 (zL_sL _).symm ?_
  refine x_aload_n dx_L_law_752 rfl rfl ?_
  refine x_sw (c_L_at (wA := wg 16 LM κ.2.2.1.2.2 adM σ) (i := ATx xs i) (e1 := σ.2.1 5) (e2 := σ.2.1 6) h.1 (sx_rg xs (i + 1)) (sL_rg _)) sw_L_111 Z N9 ⟨rfl, rfl, by decide, by decide⟩ ⟨by show k + 2 ≤ 601024; omega, by show n + 12 ≤ 7293034; omega⟩ rfl (Nat.le_of_ble_eq_true rfl) dx_L_law_753 (fun k9 u hc => ?_)
  refine x_istore dx_L_law_756 (by decide) ?_
  refine x_aload_n dx_L_law_758 rfl rfl ?_
  refine x_aload_n dx_L_law_759 rfl rfl ?_
  refine x_iload dx_L_law_760 rfl ?_
  refine x_iconst dx_L_law_762 ?_
  refine x_iadd dx_L_law_763 ?_
  refine x_sld hX (by omega) (by omega) dx_L_law_764 ?_
  refine x_aload_n dx_L_law_765 rfl rfl ?_
  refine x_iload dx_L_law_766 rfl ?_
  refine x_iconst dx_L_law_768 ?_
  refine x_iadd dx_L_law_769 ?_
  refine x_sld hX (by omega) (by omega) dx_L_law_770 ?_
  refine x_i2l dx_L_law_771 (sx_rg xs _) ?_
  refine x_bipush (z := 32) dx_L_law_772 (by decide) ?_
  refine x_lshl dx_L_law_774 (zL_sL _).symm ?_
  refine x_aload_n dx_L_law_775 rfl rfl ?_
  refine x_iload dx_L_law_776 rfl ?_
  refine x_iconst dx_L_law_778 ?_
  refine x_iadd dx_L_law_779 ?_
  refine x_sld hX (by omega) (by omega) dx_L_law_780 ?_
  refine x_i2l dx_L_law_781 (sx_rg xs _) ?_
  refine x_ldc2 (z := 4294967295) dx_L_law_782 kk_L_109 (by decide) ?_
  refine x_land dx_L_law_785 (zL_sL _).symm ?_
  refine x_lor dx_L_law_786 (zL_sL _).symm ?_
  refine x_w wd_wr ?_
  refine x_cvi2 (fr_ci [] _ (c_M_at (i := ATx xs i) h (sx_rg xs (i + 1)) (sL_rg _))) cf_L_114 ⟨rfl, rfl, by decide, by decide⟩ ⟨by show k + 2 ≤ 601024; omega, by show n + 12 ≤ 7293034; omega⟩ wr_at rfl rfl (Nat.le_of_ble_eq_true rfl) dx_L_law_787 (fun z9 σ' hm => ?_)
  refine x_istore dx_L_law_790 (by decide) ?_
  refine x_aload_n dx_L_law_792 rfl rfl ?_
  refine x_cvi0 (fr_ci [] _ c_M_thrown) cf_L_72 ⟨rfl, rfl, by decide, by decide⟩ ⟨by show k + 2 ≤ 601024; omega, by show n + 12 ≤ 7293034; omega⟩ (wr_at (u := u)) rfl rfl (Nat.le_of_ble_eq_true rfl) dx_L_law_793 (fun t9 σ2 ht => ?_)
  obtain ⟨ht, rfl⟩ := ht
  obtain ⟨hR, he, hv⟩ := lq_at hc hm
  have rk : Rg k9 := by rw [← he]; exact hR.2.1.1 0
  have et : t9 = k9 := ht.symm.trans he
  refine x_w (w' := WD κ.2.2.1.2.2 adT adM bo u σ') rfl ?_
  refine x_iload dx_L_law_796 rfl ?_
  refine x_icmp_eq (tgt := 803) dx_L_law_798 (by decide) (by rw [et]; exact rk) rk (fun _ => ?_) (fun q => absurd et q)
  refine x_iload dx_L_law_803 rfl ?_
  have fin : X κ room_1 rc_L cd_L_law 8 (WD κ.2.2.1.2.2 adT adM bo u σ') (k + 2) (n + 12) 965 (lvL b bo adT adM i) [] := x_widen (by omega) (by omega) (kk u σ' hR)
  refine x_if_ne (tgt := 820) dx_L_law_805 (by decide) rk (fun _ => ?_) (fun k0 => ?_)
  · refine x_goto (tgt := 965) dx_L_law_820 (by decide) ?_
    exact x_lv (lvL b bo adT adM i) rfl fin
  · refine x_aload_n dx_L_law_808 rfl rfl ?_
    refine x_iconst dx_L_law_809 ?_
    refine x_laldO dx_L_law_810 ?_
    have ev : u.2 0 = sI z9 := hv k0
    rw [ev]
    refine x_iload dx_L_law_811 rfl ?_
    refine x_i2s dx_L_law_813 ?_
    refine x_lcmpE dx_L_law_814 ?_
    refine x_if_eq (tgt := 820) dx_L_law_815 (by decide) Rg_0 (fun _ => ?_) (fun q => absurd rfl q)
    refine x_goto (tgt := 965) dx_L_law_820 (by decide) ?_
    exact x_lv (lvL b bo adT adM i) rfl fin
theorem w_matches {κ : Kx} {b L bo k n : Nat} {xs : Nat → Int32} {adT adM : Nat → Nat} {i : Int} {τ σ : S0} {f : Int → Int} (hh : LH κ b L xs i k n) (h : REL τ σ) (kk : LK κ b bo adT adM i k n) : X κ room_1 rc_L cd_L_law 8 (WD κ.2.2.1.2.2 adT adM bo (τ, f) σ) k n 823 (lvL b bo adT adM i) [] := by
  obtain ⟨Z, N9, hX, i0, i4, hk, hn⟩ := hh
  refine x_aload_n dx_L_law_823 rfl rfl ?_
  refine x_aload_n dx_L_law_824 rfl rfl ?_
  refine x_iload dx_L_law_825 rfl ?_
  refine x_iconst dx_L_law_827 ?_
  refine x_iadd dx_L_law_828 ?_
  refine x_sld hX (by omega) (by omega) dx_L_law_829 ?_
  refine x_aload_n dx_L_law_830 rfl rfl ?_
  refine x_iload dx_L_law_831 rfl ?_
  refine x_iconst dx_L_law_833 ?_
  refine x_iadd dx_L_law_834 ?_
  refine x_sld hX (by omega) (by omega) dx_L_law_835 ?_
  refine x_aload_n dx_L_law_836 rfl rfl ?_
  refine x_sw (c_L_matches (wA := wg 16 LM κ.2.2.1.2.2 adM σ) (e1 := σ.2.1 5) (e2 := σ.2.1 6) h.1 (sx_rg xs (i + 1)) (sx_rg xs (i + 2))) sw_L_115 Z N9 ⟨rfl, rfl, by decide, by decide⟩ ⟨by show k + 2 ≤ 601024; omega, by show n + 12 ≤ 7293034; omega⟩ rfl (Nat.le_of_ble_eq_true rfl) dx_L_law_837 (fun k9 u hc => ?_)
  refine x_istore dx_L_law_840 (by decide) ?_
  refine x_aload_n dx_L_law_842 rfl rfl ?_
  refine x_aload_n dx_L_law_843 rfl rfl ?_
  refine x_iload dx_L_law_844 rfl ?_
  refine x_iconst dx_L_law_846 ?_
  refine x_iadd dx_L_law_847 ?_
  refine x_sld hX (by omega) (by omega) dx_L_law_848 ?_
  refine x_aload_n dx_L_law_849 rfl rfl ?_
  refine x_iload dx_L_law_850 rfl ?_
  refine x_iconst dx_L_law_852 ?_
  refine x_iadd dx_L_law_853 ?_
  refine x_sld hX (by omega) (by omega) dx_L_law_854 ?_
  refine x_w wd_wr ?_
  refine x_cvi2 (fr_ci [] _ (c_M_matches h (sx_rg xs (i + 1)) (sx_rg xs (i + 2)))) cf_L_117 ⟨rfl, rfl, by decide, by decide⟩ ⟨by show k + 2 ≤ 601024; omega, by show n + 12 ≤ 7293034; omega⟩ wr_at rfl rfl (Nat.le_of_ble_eq_true rfl) dx_L_law_855 (fun z9 σ' hm => ?_)
  refine x_istore dx_L_law_858 (by decide) ?_
  refine x_aload_n dx_L_law_860 rfl rfl ?_
  refine x_cvi0 (fr_ci [] _ c_M_thrown) cf_L_72 ⟨rfl, rfl, by decide, by decide⟩ ⟨by show k + 2 ≤ 601024; omega, by show n + 12 ≤ 7293034; omega⟩ (wr_at (u := u)) rfl rfl (Nat.le_of_ble_eq_true rfl) dx_L_law_861 (fun t9 σ2 ht => ?_)
  obtain ⟨ht, rfl⟩ := ht
  obtain ⟨⟨hR, he, hv⟩, hz⟩ := lq_matches hc hm
  have rk : Rg k9 := by rw [← he]; exact hR.2.1.1 0
  have et : t9 = k9 := ht.symm.trans he
  refine x_w (w' := WD κ.2.2.1.2.2 adT adM bo u σ') rfl ?_
  refine x_iload dx_L_law_864 rfl ?_
  refine x_icmp_eq (tgt := 871) dx_L_law_866 (by decide) (by rw [et]; exact rk) rk (fun _ => ?_) (fun q => absurd et q)
  refine x_iload dx_L_law_871 rfl ?_
  have fin : X κ room_1 rc_L cd_L_law 8 (WD κ.2.2.1.2.2 adT adM bo u σ') (k + 2) (n + 12) 965 (lvL b bo adT adM i) [] := x_widen (by omega) (by omega) (kk u σ' hR)
  refine x_if_ne (tgt := 895) dx_L_law_873 (by decide) rk (fun _ => ?_) (fun k0 => ?_)
  · refine x_goto (tgt := 965) dx_L_law_895 (by decide) ?_
    exact x_lv (lvL b bo adT adM i) rfl fin
  · refine x_aload_n dx_L_law_876 rfl rfl ?_
    refine x_iconst dx_L_law_877 ?_
    refine x_laldO dx_L_law_878 ?_
    have ev : u.2 0 = z9 := hv k0
    rw [ev]
    have rz : Rg z9 := by rcases hz k0 with e | e <;> rw [e] <;> exact ⟨by decide, by decide⟩
    refine x_iload dx_L_law_879 rfl ?_
    refine x_if_eq (tgt := 888) dx_L_law_881 (by decide) rz (fun e => ?_) (fun e => ?_)
    · rw [e]
      refine x_lconst (z := 0) dx_L_law_888 (by decide) ?_
      refine x_lcmpE dx_L_law_889 ?_
      refine x_if_eq (tgt := 895) dx_L_law_890 (by decide) Rg_0 (fun _ => ?_) (fun q => absurd rfl q)
      refine x_goto (tgt := 965) dx_L_law_895 (by decide) ?_
      exact x_lv (lvL b bo adT adM i) rfl fin
    · rw [(hz k0).resolve_left e]
      refine x_lconst (z := 1) dx_L_law_884 (by decide) ?_
      refine x_goto (tgt := 889) dx_L_law_885 (by decide) ?_
      refine x_lcmpE dx_L_law_889 ?_
      refine x_if_eq (tgt := 895) dx_L_law_890 (by decide) Rg_0 (fun _ => ?_) (fun q => absurd rfl q)
      refine x_goto (tgt := 965) dx_L_law_895 (by decide) ?_
      exact x_lv (lvL b bo adT adM i) rfl fin
theorem w_common {κ : Kx} {b L bo k n : Nat} {xs : Nat → Int32} {adT adM : Nat → Nat} {i : Int} {τ σ : S0} {f : Int → Int} (hh : LH κ b L xs i k n) (h : REL τ σ) (kk : LK κ b bo adT adM i k n) : X κ room_1 rc_L cd_L_law 8 (WD κ.2.2.1.2.2 adT adM bo (τ, f) σ) k n 898 (lvL b bo adT adM i) [] := by
  obtain ⟨Z, N9, hX, i0, i4, hk, hn⟩ := hh
  refine x_aload_n dx_L_law_898 rfl rfl ?_
  refine x_aload_n dx_L_law_899 rfl rfl ?_
  refine x_iload dx_L_law_900 rfl ?_
  refine x_iconst dx_L_law_902 ?_
  refine x_iadd dx_L_law_903 ?_
  refine x_sld hX (by omega) (by omega) dx_L_law_904 ?_
  refine x_aload_n dx_L_law_905 rfl rfl ?_
  refine x_iload dx_L_law_906 rfl ?_
  refine x_iconst dx_L_law_908 ?_
  refine x_iadd dx_L_law_909 ?_
  refine x_sld hX (by omega) (by omega) dx_L_law_910 ?_
  refine x_aload_n dx_L_law_911 rfl rfl ?_
  refine x_sw (c_L_common (wA := wg 16 LM κ.2.2.1.2.2 adM σ) (e1 := σ.2.1 5) (e2 := σ.2.1 6) h.1 (sx_rg xs (i + 1)) (sx_rg xs (i + 2))) sw_L_118 Z N9 ⟨rfl, rfl, by decide, by decide⟩ ⟨by show k + 2 ≤ 601024; omega, by show n + 12 ≤ 7293034; omega⟩ rfl (Nat.le_of_ble_eq_true rfl) dx_L_law_912 (fun k9 u hc => ?_)
  refine x_istore dx_L_law_915 (by decide) ?_
  refine x_aload_n dx_L_law_917 rfl rfl ?_
  refine x_aload_n dx_L_law_918 rfl rfl ?_
  refine x_iload dx_L_law_919 rfl ?_
  refine x_iconst dx_L_law_921 ?_
  refine x_iadd dx_L_law_922 ?_
  refine x_sld hX (by omega) (by omega) dx_L_law_923 ?_
  refine x_aload_n dx_L_law_924 rfl rfl ?_
  refine x_iload dx_L_law_925 rfl ?_
  refine x_iconst dx_L_law_927 ?_
  refine x_iadd dx_L_law_928 ?_
  refine x_sld hX (by omega) (by omega) dx_L_law_929 ?_
  refine x_w wd_wr ?_
  refine x_cvl2 (fr_cl [] _ (c_M_common h (sx_rg xs (i + 1)) (sx_rg xs (i + 2)))) cf_L_120 ⟨rfl, rfl, by decide, by decide⟩ ⟨by show k + 2 ≤ 601024; omega, by show n + 12 ≤ 7293034; omega⟩ wr_at rfl rfl (Nat.le_of_ble_eq_true rfl) dx_L_law_930 (fun z9 σ' hm => ?_)
  refine x_lstore dx_L_law_933 (by decide) ?_
  refine x_aload_n dx_L_law_935 rfl rfl ?_
  refine x_cvi0 (fr_ci [] _ c_M_thrown) cf_L_72 ⟨rfl, rfl, by decide, by decide⟩ ⟨by show k + 2 ≤ 601024; omega, by show n + 12 ≤ 7293034; omega⟩ (wr_at (u := u)) rfl rfl (Nat.le_of_ble_eq_true rfl) dx_L_law_936 (fun t9 σ2 ht => ?_)
  obtain ⟨ht, rfl⟩ := ht
  obtain ⟨hR, he, hv⟩ := lq_common hc hm
  have rk : Rg k9 := by rw [← he]; exact hR.2.1.1 0
  have et : t9 = k9 := ht.symm.trans he
  refine x_w (w' := WD κ.2.2.1.2.2 adT adM bo u σ') rfl ?_
  refine x_iload dx_L_law_939 rfl ?_
  refine x_icmp_eq (tgt := 946) dx_L_law_941 (by decide) (by rw [et]; exact rk) rk (fun _ => ?_) (fun q => absurd et q)
  refine x_iload dx_L_law_946 rfl ?_
  have fin : X κ room_1 rc_L cd_L_law 8 (WD κ.2.2.1.2.2 adT adM bo u σ') (k + 2) (n + 12) 965 (lvL b bo adT adM i) [] := x_widen (by omega) (by omega) (kk u σ' hR)
  refine x_if_ne (tgt := 962) dx_L_law_948 (by decide) rk (fun _ => ?_) (fun k0 => ?_)
  · refine x_goto (tgt := 965) dx_L_law_962 (by decide) ?_
    exact x_lv (lvL b bo adT adM i) rfl fin
  · refine x_aload_n dx_L_law_951 rfl rfl ?_
    refine x_iconst dx_L_law_952 ?_
    refine x_laldO dx_L_law_953 ?_
    have ev : u.2 0 = z9 := hv k0
    rw [ev]
    refine x_lload dx_L_law_954 rfl ?_
    refine x_lcmpE dx_L_law_956 ?_
    refine x_if_eq (tgt := 962) dx_L_law_957 (by decide) Rg_0 (fun _ => ?_) (fun q => absurd rfl q)
    refine x_goto (tgt := 965) dx_L_law_962 (by decide) ?_
    exact x_lv (lvL b bo adT adM i) rfl fin
theorem w_why {κ : Kx} {b L bo k n : Nat} {xs : Nat → Int32} {adT adM : Nat → Nat} {i : Int} {τ σ : S0} {f : Int → Int} (hh : LH κ b L xs i k n) (h : REL τ σ) (kk : LK κ b bo adT adM i k n) : X κ room_1 rc_L cd_L_law 8 (WD κ.2.2.1.2.2 adT adM bo (τ, f) σ) k n 300 (lvL b bo adT adM i) [] := by
  obtain ⟨Z, N9, hX, i0, i4, hk, hn⟩ := hh
  refine x_aload_n dx_L_law_300 rfl rfl ?_
  refine x_cvi0 (fr_ci (wg 16 LM κ.2.2.1.2.2 adM σ) [(bo, la (κ.2.2.1.2.2 1) 1 f)] (c_T_why (σ := τ))) cf_L_83 ⟨rfl, rfl, by decide, by decide⟩ ⟨by show k ≤ 601024; omega, by show n ≤ 7293034; omega⟩ (wo_at (u := (τ, f))) rfl rfl (Nat.le_of_ble_eq_true rfl) dx_L_law_301 (fun z9 u hc => ?_)
  obtain ⟨hc, rfl⟩ := hc
  refine x_aload_n dx_L_law_304 rfl rfl ?_
  refine x_w (w' := WR κ.2.2.1.2.2 adT adM bo (τ, f) σ) rfl ?_
  refine x_cvi0 (fr_ci [] _ (c_M_why (σ := σ))) cf_L_86 ⟨rfl, rfl, by decide, by decide⟩ ⟨by show k ≤ 601024; omega, by show n ≤ 7293034; omega⟩ (wr_at (u := (τ, f))) rfl rfl (Nat.le_of_ble_eq_true rfl) dx_L_law_305 (fun t9 σ2 hm => ?_)
  obtain ⟨hm, rfl⟩ := hm
  have e : z9 = t9 := by rw [← hc, ← hm]; exact h.2.2.2.2.1.symm
  have rz : Rg z9 := by rw [← hc]; exact h.1.1.1.1 5
  refine x_w (w' := WD κ.2.2.1.2.2 adT adM bo (τ, f) (stI σ 0 0)) rfl ?_
  refine x_icmp_eq (tgt := 965) dx_L_law_308 (by decide) rz (by rw [← e]; exact rz) (fun _ => ?_) (fun q => absurd e q)
  exact x_widen (by omega) (by omega) (kk (τ, f) (stI σ 0 0) (rel_0 h Rg_0))
