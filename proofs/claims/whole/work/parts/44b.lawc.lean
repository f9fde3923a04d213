set_option maxHeartbeats 4000000 in
set_option maxRecDepth 100000 in
theorem lc_chief {p : Program} {l : Launch} {e : Env} {s : State} {m : MethodId} {below : List Frame} {meth : Method} {c : Code} {Q : State → Prop} {E : gE} {b L : Nat} {xs : Nat → Int32} (C : gC p s m #[Value.ref b] meth c E cL_law 4 wsL_law RL) (hX : va_X b L xs s s.heap) (hbl : b < s.heap.size) (hbA : ¬ gA E b) (hL : L ≤ 2560) {a1 b1 i cells slots : Nat} (hi : i + 5 ≤ L) (hce : cells + 4 ≤ 600000) (hsl : slots + 6009 ≤ 7302250) {zw : va_W} (hV : INV E a1 b1 zw) (hK : ∀ w1 : va_W, INV E a1 b1 w1 → V p l e room_1 s m #[Value.ref b] below meth c E 4 w1 (cells + 4) (slots + 6009) Q 1174 [(0, .ref b), (1, .ref a1), (2, .ref b1), (3, .int (nI i))] []) : V p l e room_1 s m #[Value.ref b] below meth c E 4 zw cells slots Q 618 [(0, .ref b), (1, .ref a1), (2, .ref b1), (3, .int (nI i))] [] := by
  obtain ⟨⟨fs0, h5⟩, Mid, k1, k2⟩ := pr_chief l hV (xs (nI (i + 1)).toNatClampNeg) (xs (nI (i + 2)).toNatClampNeg) (xs (nI (i + 3)).toNatClampNeg)
  refine v_aload_n C dL_law_618 rfl rfl ?_
  refine v_aload_n C dL_law_619 rfl rfl ?_
  refine v_iload_n C dL_law_620 rfl rfl ?_
  refine v_iconst (v := 1) C dL_law_621 (by decide) ?_
  refine v_iadd C dL_law_622 ?_
  refine v_tov (y := nI (i + 1)) (nI_add i 1) ?_
  refine v_sld C hX hbl hbA (vp_in_nI (by omega) (by omega)) dL_law_623 ?_
  refine v_aload_n C dL_law_624 rfl rfl ?_
  refine v_iload_n C dL_law_625 rfl rfl ?_
  refine v_iconst (v := 2) C dL_law_626 (by decide) ?_
  refine v_iadd C dL_law_627 ?_
  refine v_tov (y := nI (i + 2)) (nI_add i 2) ?_
  refine v_sld C hX hbl hbA (vp_in_nI (by omega) (by omega)) dL_law_628 ?_
  refine v_aload_n C dL_law_629 rfl rfl ?_
  refine v_iload_n C dL_law_630 rfl rfl ?_
  refine v_iconst (v := 3) C dL_law_631 (by decide) ?_
  refine v_iadd C dL_law_632 ?_
  refine v_tov (y := nI (i + 3)) (nI_add i 3) ?_
  refine v_sld C hX hbl hbA (vp_in_nI (by omega) (by omega)) dL_law_633 ?_
  refine v_callVi C k1 (cwV 3 C.1.2.2.2.2 gL_law_X5_chief rfl rfl rfl (by decide +kernel) ⟨(Nat.le_of_ble_eq_true rfl), (Nat.le_of_ble_eq_true rfl)⟩) 0 6 h5 rfl rfl rfl (Nat.le_of_ble_eq_true rfl) dL_law_634 ⟨show cells + 0 ≤ 600000 by omega, show slots + 0 ≤ 7302250 by omega⟩ (fun r w1 hp => ?_)
  obtain ⟨⟨fs1, h6⟩, k3⟩ := k2 r w1 hp
  refine v_aload_n C dL_law_637 rfl rfl ?_
  refine v_aload_n C dL_law_638 rfl rfl ?_
  refine v_iload_n C dL_law_639 rfl rfl ?_
  refine v_iconst (v := 1) C dL_law_640 (by decide) ?_
  refine v_iadd C dL_law_641 ?_
  refine v_tov (y := nI (i + 1)) (nI_add i 1) ?_
  refine v_sld C hX hbl hbA (vp_in_nI (by omega) (by omega)) dL_law_642 ?_
  refine v_aload_n C dL_law_643 rfl rfl ?_
  refine v_iload_n C dL_law_644 rfl rfl ?_
  refine v_iconst (v := 2) C dL_law_645 (by decide) ?_
  refine v_iadd C dL_law_646 ?_
  refine v_tov (y := nI (i + 2)) (nI_add i 2) ?_
  refine v_sld C hX hbl hbA (vp_in_nI (by omega) (by omega)) dL_law_647 ?_
  refine v_aload_n C dL_law_648 rfl rfl ?_
  refine v_iload_n C dL_law_649 rfl rfl ?_
  refine v_iconst (v := 3) C dL_law_650 (by decide) ?_
  refine v_iadd C dL_law_651 ?_
  refine v_tov (y := nI (i + 3)) (nI_add i 3) ?_
  refine v_sld C hX hbl hbA (vp_in_nI (by omega) (by omega)) dL_law_652 ?_
  refine v_callVi C k3 (cwV 3 C.1.2.2.2.2 gL_law_X6_chief rfl rfl rfl (by decide +kernel) ⟨(Nat.le_of_ble_eq_true rfl), (Nat.le_of_ble_eq_true rfl)⟩) 12 7 h6 rfl rfl rfl (Nat.le_of_ble_eq_true rfl) dL_law_653 ⟨show cells + 0 + 0 ≤ 600000 by omega, show slots + 0 + 0 ≤ 7302250 by omega⟩ (fun r2 w2 hp2 => ?_)
  obtain ⟨hr9, hV2⟩ := hp2
  exact v_icmp_eq (tgt := 1174) C dL_law_656 (by decide) (fun _ => v_widen (kc := cells + 4) (ks := slots + 6009) (by omega) (by omega) (hK w2 hV2)) (fun c9 => absurd hr9.symm c9)
set_option maxHeartbeats 4000000 in
set_option maxRecDepth 100000 in
theorem lc_shortAt {p : Program} {l : Launch} {e : Env} {s : State} {m : MethodId} {below : List Frame} {meth : Method} {c : Code} {Q : State → Prop} {E : gE} {b L : Nat} {xs : Nat → Int32} (C : gC p s m #[Value.ref b] meth c E cL_law 4 wsL_law RL) (hX : va_X b L xs s s.heap) (hbl : b < s.heap.size) (hbA : ¬ gA E b) (hL : L ≤ 2560) {a1 b1 i cells slots : Nat} (hi : i + 5 ≤ L) (hce : cells + 4 ≤ 600000) (hsl : slots + 6009 ≤ 7302250) {zw : va_W} (hV : INV E a1 b1 zw) (hK : ∀ w1 : va_W, INV E a1 b1 w1 → V p l e room_1 s m #[Value.ref b] below meth c E 4 w1 (cells + 4) (slots + 6009) Q 1174 [(0, .ref b), (1, .ref a1), (2, .ref b1), (3, .int (nI i))] []) : V p l e room_1 s m #[Value.ref b] below meth c E 4 zw cells slots Q 661 [(0, .ref b), (1, .ref a1), (2, .ref b1), (3, .int (nI i))] [] := by
  obtain ⟨⟨fs0, h5⟩, Mid, k1, k2⟩ := pr_shortAt l hV (xs (nI (i + 1)).toNatClampNeg) (xs (nI (i + 2)).toNatClampNeg)
  refine v_aload_n C dL_law_661 rfl rfl ?_
  refine v_aload_n C dL_law_662 rfl rfl ?_
  refine v_iload_n C dL_law_663 rfl rfl ?_
  refine v_iconst (v := 1) C dL_law_664 (by decide) ?_
  refine v_iadd C dL_law_665 ?_
  refine v_tov (y := nI (i + 1)) (nI_add i 1) ?_
  refine v_sld C hX hbl hbA (vp_in_nI (by omega) (by omega)) dL_law_666 ?_
  refine v_aload_n C dL_law_667 rfl rfl ?_
  refine v_iload_n C dL_law_668 rfl rfl ?_
  refine v_iconst (v := 2) C dL_law_669 (by decide) ?_
  refine v_iadd C dL_law_670 ?_
  refine v_tov (y := nI (i + 2)) (nI_add i 2) ?_
  refine v_sld C hX hbl hbA (vp_in_nI (by omega) (by omega)) dL_law_671 ?_
  refine v_callVi C k1 (cwV 2 C.1.2.2.2.2 gL_law_X5_shortAt rfl rfl rfl (by decide +kernel) ⟨(Nat.le_of_ble_eq_true rfl), (Nat.le_of_ble_eq_true rfl)⟩) 0 6 h5 rfl rfl rfl (Nat.le_of_ble_eq_true rfl) dL_law_672 ⟨show cells + 0 ≤ 600000 by omega, show slots + 0 ≤ 7302250 by omega⟩ (fun r w1 hp => ?_)
  obtain ⟨⟨fs1, h6⟩, k3⟩ := k2 r w1 hp
  refine v_aload_n C dL_law_675 rfl rfl ?_
  refine v_aload_n C dL_law_676 rfl rfl ?_
  refine v_iload_n C dL_law_677 rfl rfl ?_
  refine v_iconst (v := 1) C dL_law_678 (by decide) ?_
  refine v_iadd C dL_law_679 ?_
  refine v_tov (y := nI (i + 1)) (nI_add i 1) ?_
  refine v_sld C hX hbl hbA (vp_in_nI (by omega) (by omega)) dL_law_680 ?_
  refine v_aload_n C dL_law_681 rfl rfl ?_
  refine v_iload_n C dL_law_682 rfl rfl ?_
  refine v_iconst (v := 2) C dL_law_683 (by decide) ?_
  refine v_iadd C dL_law_684 ?_
  refine v_tov (y := nI (i + 2)) (nI_add i 2) ?_
  refine v_sld C hX hbl hbA (vp_in_nI (by omega) (by omega)) dL_law_685 ?_
  refine v_callVi C k3 (cwV 2 C.1.2.2.2.2 gL_law_X6_shortAt rfl rfl rfl (by decide +kernel) ⟨(Nat.le_of_ble_eq_true rfl), (Nat.le_of_ble_eq_true rfl)⟩) 12 7 h6 rfl rfl rfl (Nat.le_of_ble_eq_true rfl) dL_law_686 ⟨show cells + 0 + 0 ≤ 600000 by omega, show slots + 0 + 0 ≤ 7302250 by omega⟩ (fun r2 w2 hp2 => ?_)
  obtain ⟨hr9, hV2⟩ := hp2
  exact v_icmp_eq (tgt := 1174) C dL_law_689 (by decide) (fun _ => v_widen (kc := cells + 4) (ks := slots + 6009) (by omega) (by omega) (hK w2 hV2)) (fun c9 => absurd hr9.symm c9)
set_option maxHeartbeats 4000000 in
set_option maxRecDepth 100000 in
theorem lc_ask {p : Program} {l : Launch} {e : Env} {s : State} {m : MethodId} {below : List Frame} {meth : Method} {c : Code} {Q : State → Prop} {E : gE} {b L : Nat} {xs : Nat → Int32} (C : gC p s m #[Value.ref b] meth c E cL_law 4 wsL_law RL) (hX : va_X b L xs s s.heap) (hbl : b < s.heap.size) (hbA : ¬ gA E b) (hL : L ≤ 2560) {a1 b1 i cells slots : Nat} (hi : i + 5 ≤ L) (hce : cells + 4 ≤ 600000) (hsl : slots + 6009 ≤ 7302250) {zw : va_W} (hV : INV E a1 b1 zw) (hK : ∀ w1 : va_W, INV E a1 b1 w1 → V p l e room_1 s m #[Value.ref b] below meth c E 4 w1 (cells + 4) (slots + 6009) Q 1174 [(0, .ref b), (1, .ref a1), (2, .ref b1), (3, .int (nI i))] []) : V p l e room_1 s m #[Value.ref b] below meth c E 4 zw cells slots Q 694 [(0, .ref b), (1, .ref a1), (2, .ref b1), (3, .int (nI i))] [] := by
  obtain ⟨⟨fs0, h5⟩, Mid, k1, k2⟩ := pr_ask l hV (xs (nI (i + 1)).toNatClampNeg) (xs (nI (i + 2)).toNatClampNeg) (xs (nI (i + 3)).toNatClampNeg)
  refine v_aload_n C dL_law_694 rfl rfl ?_
  refine v_aload_n C dL_law_695 rfl rfl ?_
  refine v_iload_n C dL_law_696 rfl rfl ?_
  refine v_iconst (v := 1) C dL_law_697 (by decide) ?_
  refine v_iadd C dL_law_698 ?_
  refine v_tov (y := nI (i + 1)) (nI_add i 1) ?_
  refine v_sld C hX hbl hbA (vp_in_nI (by omega) (by omega)) dL_law_699 ?_
  refine v_aload_n C dL_law_700 rfl rfl ?_
  refine v_iload_n C dL_law_701 rfl rfl ?_
  refine v_iconst (v := 2) C dL_law_702 (by decide) ?_
  refine v_iadd C dL_law_703 ?_
  refine v_tov (y := nI (i + 2)) (nI_add i 2) ?_
  refine v_sld C hX hbl hbA (vp_in_nI (by omega) (by omega)) dL_law_704 ?_
  refine v_aload_n C dL_law_705 rfl rfl ?_
  refine v_iload_n C dL_law_706 rfl rfl ?_
  refine v_iconst (v := 3) C dL_law_707 (by decide) ?_
  refine v_iadd C dL_law_708 ?_
  refine v_tov (y := nI (i + 3)) (nI_add i 3) ?_
  refine v_sld C hX hbl hbA (vp_in_nI (by omega) (by omega)) dL_law_709 ?_
  refine v_callVi C k1 (cwV 3 C.1.2.2.2.2 gL_law_X5_ask rfl rfl rfl (by decide +kernel) ⟨(Nat.le_of_ble_eq_true rfl), (Nat.le_of_ble_eq_true rfl)⟩) 0 6 h5 rfl rfl rfl (Nat.le_of_ble_eq_true rfl) dL_law_710 ⟨show cells + 2 ≤ 600000 by omega, show slots + 3005 ≤ 7302250 by omega⟩ (fun r w1 hp => ?_)
  obtain ⟨⟨fs1, h6⟩, k3⟩ := k2 r w1 hp
  refine v_aload_n C dL_law_713 rfl rfl ?_
  refine v_aload_n C dL_law_714 rfl rfl ?_
  refine v_iload_n C dL_law_715 rfl rfl ?_
  refine v_iconst (v := 1) C dL_law_716 (by decide) ?_
  refine v_iadd C dL_law_717 ?_
  refine v_tov (y := nI (i + 1)) (nI_add i 1) ?_
  refine v_sld C hX hbl hbA (vp_in_nI (by omega) (by omega)) dL_law_718 ?_
  refine v_aload_n C dL_law_719 rfl rfl ?_
  refine v_iload_n C dL_law_720 rfl rfl ?_
  refine v_iconst (v := 2) C dL_law_721 (by decide) ?_
  refine v_iadd C dL_law_722 ?_
  refine v_tov (y := nI (i + 2)) (nI_add i 2) ?_
  refine v_sld C hX hbl hbA (vp_in_nI (by omega) (by omega)) dL_law_723 ?_
  refine v_aload_n C dL_law_724 rfl rfl ?_
  refine v_iload_n C dL_law_725 rfl rfl ?_
  refine v_iconst (v := 3) C dL_law_726 (by decide) ?_
  refine v_iadd C dL_law_727 ?_
  refine v_tov (y := nI (i + 3)) (nI_add i 3) ?_
  refine v_sld C hX hbl hbA (vp_in_nI (by omega) (by omega)) dL_law_728 ?_
  refine v_callVi C k3 (cwV 3 C.1.2.2.2.2 gL_law_X6_ask rfl rfl rfl (by decide +kernel) ⟨(Nat.le_of_ble_eq_true rfl), (Nat.le_of_ble_eq_true rfl)⟩) 12 7 h6 rfl rfl rfl (Nat.le_of_ble_eq_true rfl) dL_law_729 ⟨show cells + 2 + 0 ≤ 600000 by omega, show slots + 3005 + 0 ≤ 7302250 by omega⟩ (fun r2 w2 hp2 => ?_)
  obtain ⟨hr9, hV2⟩ := hp2
  exact v_icmp_eq (tgt := 1174) C dL_law_732 (by decide) (fun _ => v_widen (kc := cells + 4) (ks := slots + 6009) (by omega) (by omega) (hK w2 hV2)) (fun c9 => absurd hr9.symm c9)
set_option maxHeartbeats 4000000 in
set_option maxRecDepth 100000 in
theorem lc_answer {p : Program} {l : Launch} {e : Env} {s : State} {m : MethodId} {below : List Frame} {meth : Method} {c : Code} {Q : State → Prop} {E : gE} {b L : Nat} {xs : Nat → Int32} (C : gC p s m #[Value.ref b] meth c E cL_law 4 wsL_law RL) (hX : va_X b L xs s s.heap) (hbl : b < s.heap.size) (hbA : ¬ gA E b) (hL : L ≤ 2560) {a1 b1 i cells slots : Nat} (hi : i + 5 ≤ L) (hce : cells + 4 ≤ 600000) (hsl : slots + 6009 ≤ 7302250) {zw : va_W} (hV : INV E a1 b1 zw) (hK : ∀ w1 : va_W, INV E a1 b1 w1 → V p l e room_1 s m #[Value.ref b] below meth c E 4 w1 (cells + 4) (slots + 6009) Q 1174 [(0, .ref b), (1, .ref a1), (2, .ref b1), (3, .int (nI i))] []) : V p l e room_1 s m #[Value.ref b] below meth c E 4 zw cells slots Q 737 [(0, .ref b), (1, .ref a1), (2, .ref b1), (3, .int (nI i))] [] := by
  obtain ⟨⟨fs0, h5⟩, Mid, k1, k2⟩ := pr_answer l hV (xs (nI (i + 1)).toNatClampNeg) (xs (nI (i + 2)).toNatClampNeg) (xs (nI (i + 3)).toNatClampNeg) (xs (nI (i + 4)).toNatClampNeg)
  refine v_aload_n C dL_law_737 rfl rfl ?_
  refine v_aload_n C dL_law_738 rfl rfl ?_
  refine v_iload_n C dL_law_739 rfl rfl ?_
  refine v_iconst (v := 1) C dL_law_740 (by decide) ?_
  refine v_iadd C dL_law_741 ?_
  refine v_tov (y := nI (i + 1)) (nI_add i 1) ?_
  refine v_sld C hX hbl hbA (vp_in_nI (by omega) (by omega)) dL_law_742 ?_
  refine v_aload_n C dL_law_743 rfl rfl ?_
  refine v_iload_n C dL_law_744 rfl rfl ?_
  refine v_iconst (v := 2) C dL_law_745 (by decide) ?_
  refine v_iadd C dL_law_746 ?_
  refine v_tov (y := nI (i + 2)) (nI_add i 2) ?_
  refine v_sld C hX hbl hbA (vp_in_nI (by omega) (by omega)) dL_law_747 ?_
  refine v_aload_n C dL_law_748 rfl rfl ?_
  refine v_iload_n C dL_law_749 rfl rfl ?_
  refine v_iconst (v := 3) C dL_law_750 (by decide) ?_
  refine v_iadd C dL_law_751 ?_
  refine v_tov (y := nI (i + 3)) (nI_add i 3) ?_
  refine v_sld C hX hbl hbA (vp_in_nI (by omega) (by omega)) dL_law_752 ?_
  refine v_aload_n C dL_law_753 rfl rfl ?_
  refine v_iload_n C dL_law_754 rfl rfl ?_
  refine v_iconst (v := 4) C dL_law_755 (by decide) ?_
  refine v_iadd C dL_law_756 ?_
  refine v_tov (y := nI (i + 4)) (nI_add i 4) ?_
  refine v_sld C hX hbl hbA (vp_in_nI (by omega) (by omega)) dL_law_757 ?_
  refine v_callVl C k1 (cwV 4 C.1.2.2.2.2 gL_law_X5_answer rfl rfl rfl (by decide +kernel) ⟨(Nat.le_of_ble_eq_true rfl), (Nat.le_of_ble_eq_true rfl)⟩) 0 6 h5 rfl rfl rfl (Nat.le_of_ble_eq_true rfl) dL_law_758 ⟨show cells + 0 ≤ 600000 by omega, show slots + 0 ≤ 7302250 by omega⟩ (fun r w1 hp => ?_)
  obtain ⟨⟨fs1, h6⟩, k3⟩ := k2 r w1 hp
  refine v_aload_n C dL_law_761 rfl rfl ?_
  refine v_aload_n C dL_law_762 rfl rfl ?_
  refine v_iload_n C dL_law_763 rfl rfl ?_
  refine v_iconst (v := 1) C dL_law_764 (by decide) ?_
  refine v_iadd C dL_law_765 ?_
  refine v_tov (y := nI (i + 1)) (nI_add i 1) ?_
  refine v_sld C hX hbl hbA (vp_in_nI (by omega) (by omega)) dL_law_766 ?_
  refine v_aload_n C dL_law_767 rfl rfl ?_
  refine v_iload_n C dL_law_768 rfl rfl ?_
  refine v_iconst (v := 2) C dL_law_769 (by decide) ?_
  refine v_iadd C dL_law_770 ?_
  refine v_tov (y := nI (i + 2)) (nI_add i 2) ?_
  refine v_sld C hX hbl hbA (vp_in_nI (by omega) (by omega)) dL_law_771 ?_
  refine v_aload_n C dL_law_772 rfl rfl ?_
  refine v_iload_n C dL_law_773 rfl rfl ?_
  refine v_iconst (v := 3) C dL_law_774 (by decide) ?_
  refine v_iadd C dL_law_775 ?_
  refine v_tov (y := nI (i + 3)) (nI_add i 3) ?_
  refine v_sld C hX hbl hbA (vp_in_nI (by omega) (by omega)) dL_law_776 ?_
  refine v_aload_n C dL_law_777 rfl rfl ?_
  refine v_iload_n C dL_law_778 rfl rfl ?_
  refine v_iconst (v := 4) C dL_law_779 (by decide) ?_
  refine v_iadd C dL_law_780 ?_
  refine v_tov (y := nI (i + 4)) (nI_add i 4) ?_
  refine v_sld C hX hbl hbA (vp_in_nI (by omega) (by omega)) dL_law_781 ?_
  refine v_callVl C k3 (cwV 4 C.1.2.2.2.2 gL_law_X6_answer rfl rfl rfl (by decide +kernel) ⟨(Nat.le_of_ble_eq_true rfl), (Nat.le_of_ble_eq_true rfl)⟩) 12 7 h6 rfl rfl rfl (Nat.le_of_ble_eq_true rfl) dL_law_782 ⟨show cells + 0 + 0 ≤ 600000 by omega, show slots + 0 + 0 ≤ 7302250 by omega⟩ (fun r2 w2 hp2 => ?_)
  obtain ⟨hr9, hV2⟩ := hp2
  refine v_lcmp C dL_law_785 ?_
  exact v_if_eq (tgt := 1174) C dL_law_786 (by decide) (fun _ => v_widen (kc := cells + 4) (ks := slots + 6009) (by omega) (by omega) (hK w2 hV2)) (fun c9 => absurd ((lg_cmp_eq _ _).mpr hr9.symm) c9)
set_option maxHeartbeats 4000000 in
set_option maxRecDepth 100000 in
theorem lc_keys {p : Program} {l : Launch} {e : Env} {s : State} {m : MethodId} {below : List Frame} {meth : Method} {c : Code} {Q : State → Prop} {E : gE} {b L : Nat} {xs : Nat → Int32} (C : gC p s m #[Value.ref b] meth c E cL_law 4 wsL_law RL) (hX : va_X b L xs s s.heap) (hbl : b < s.heap.size) (hbA : ¬ gA E b) (hL : L ≤ 2560) {a1 b1 i cells slots : Nat} (hi : i + 5 ≤ L) (hce : cells + 4 ≤ 600000) (hsl : slots + 6009 ≤ 7302250) {zw : va_W} (hV : INV E a1 b1 zw) (hK : ∀ w1 : va_W, INV E a1 b1 w1 → V p l e room_1 s m #[Value.ref b] below meth c E 4 w1 (cells + 4) (slots + 6009) Q 1174 [(0, .ref b), (1, .ref a1), (2, .ref b1), (3, .int (nI i))] []) : V p l e room_1 s m #[Value.ref b] below meth c E 4 zw cells slots Q 791 [(0, .ref b), (1, .ref a1), (2, .ref b1), (3, .int (nI i))] [] := by
  obtain ⟨⟨fs0, h5⟩, Mid, k1, k2⟩ := pr_keys l hV (xs (nI (i + 1)).toNatClampNeg) (xs (nI (i + 2)).toNatClampNeg) (xs (nI (i + 3)).toNatClampNeg)
  refine v_aload_n C dL_law_791 rfl rfl ?_
  refine v_aload_n C dL_law_792 rfl rfl ?_
  refine v_iload_n C dL_law_793 rfl rfl ?_
  refine v_iconst (v := 1) C dL_law_794 (by decide) ?_
  refine v_iadd C dL_law_795 ?_
  refine v_tov (y := nI (i + 1)) (nI_add i 1) ?_
  refine v_sld C hX hbl hbA (vp_in_nI (by omega) (by omega)) dL_law_796 ?_
  refine v_aload_n C dL_law_797 rfl rfl ?_
  refine v_iload_n C dL_law_798 rfl rfl ?_
  refine v_iconst (v := 2) C dL_law_799 (by decide) ?_
  refine v_iadd C dL_law_800 ?_
  refine v_tov (y := nI (i + 2)) (nI_add i 2) ?_
  refine v_sld C hX hbl hbA (vp_in_nI (by omega) (by omega)) dL_law_801 ?_
  refine v_aload_n C dL_law_802 rfl rfl ?_
  refine v_iload_n C dL_law_803 rfl rfl ?_
  refine v_iconst (v := 3) C dL_law_804 (by decide) ?_
  refine v_iadd C dL_law_805 ?_
  refine v_tov (y := nI (i + 3)) (nI_add i 3) ?_
  refine v_sld C hX hbl hbA (vp_in_nI (by omega) (by omega)) dL_law_806 ?_
  refine v_callVi C k1 (cwV 3 C.1.2.2.2.2 gL_law_X5_keys rfl rfl rfl (by decide +kernel) ⟨(Nat.le_of_ble_eq_true rfl), (Nat.le_of_ble_eq_true rfl)⟩) 0 6 h5 rfl rfl rfl (Nat.le_of_ble_eq_true rfl) dL_law_807 ⟨show cells + 0 ≤ 600000 by omega, show slots + 0 ≤ 7302250 by omega⟩ (fun r w1 hp => ?_)
  obtain ⟨⟨fs1, h6⟩, k3⟩ := k2 r w1 hp
  refine v_aload_n C dL_law_810 rfl rfl ?_
  refine v_aload_n C dL_law_811 rfl rfl ?_
  refine v_iload_n C dL_law_812 rfl rfl ?_
  refine v_iconst (v := 1) C dL_law_813 (by decide) ?_
  refine v_iadd C dL_law_814 ?_
  refine v_tov (y := nI (i + 1)) (nI_add i 1) ?_
  refine v_sld C hX hbl hbA (vp_in_nI (by omega) (by omega)) dL_law_815 ?_
  refine v_aload_n C dL_law_816 rfl rfl ?_
  refine v_iload_n C dL_law_817 rfl rfl ?_
  refine v_iconst (v := 2) C dL_law_818 (by decide) ?_
  refine v_iadd C dL_law_819 ?_
  refine v_tov (y := nI (i + 2)) (nI_add i 2) ?_
  refine v_sld C hX hbl hbA (vp_in_nI (by omega) (by omega)) dL_law_820 ?_
  refine v_aload_n C dL_law_821 rfl rfl ?_
  refine v_iload_n C dL_law_822 rfl rfl ?_
  refine v_iconst (v := 3) C dL_law_823 (by decide) ?_
  refine v_iadd C dL_law_824 ?_
  refine v_tov (y := nI (i + 3)) (nI_add i 3) ?_
  refine v_sld C hX hbl hbA (vp_in_nI (by omega) (by omega)) dL_law_825 ?_
  refine v_callVi C k3 (cwV 3 C.1.2.2.2.2 gL_law_X6_keys rfl rfl rfl (by decide +kernel) ⟨(Nat.le_of_ble_eq_true rfl), (Nat.le_of_ble_eq_true rfl)⟩) 12 7 h6 rfl rfl rfl (Nat.le_of_ble_eq_true rfl) dL_law_826 ⟨show cells + 0 + 0 ≤ 600000 by omega, show slots + 0 + 0 ≤ 7302250 by omega⟩ (fun r2 w2 hp2 => ?_)
  obtain ⟨hr9, hV2⟩ := hp2
  exact v_icmp_eq (tgt := 1174) C dL_law_829 (by decide) (fun _ => v_widen (kc := cells + 4) (ks := slots + 6009) (by omega) (by omega) (hK w2 hV2)) (fun c9 => absurd hr9.symm c9)
set_option maxHeartbeats 4000000 in
set_option maxRecDepth 100000 in
theorem lc_key {p : Program} {l : Launch} {e : Env} {s : State} {m : MethodId} {below : List Frame} {meth : Method} {c : Code} {Q : State → Prop} {E : gE} {b L : Nat} {xs : Nat → Int32} (C : gC p s m #[Value.ref b] meth c E cL_law 4 wsL_law RL) (hX : va_X b L xs s s.heap) (hbl : b < s.heap.size) (hbA : ¬ gA E b) (hL : L ≤ 2560) {a1 b1 i cells slots : Nat} (hi : i + 5 ≤ L) (hce : cells + 4 ≤ 600000) (hsl : slots + 6009 ≤ 7302250) {zw : va_W} (hV : INV E a1 b1 zw) (hK : ∀ w1 : va_W, INV E a1 b1 w1 → V p l e room_1 s m #[Value.ref b] below meth c E 4 w1 (cells + 4) (slots + 6009) Q 1174 [(0, .ref b), (1, .ref a1), (2, .ref b1), (3, .int (nI i))] []) : V p l e room_1 s m #[Value.ref b] below meth c E 4 zw cells slots Q 834 [(0, .ref b), (1, .ref a1), (2, .ref b1), (3, .int (nI i))] [] := by
  obtain ⟨⟨fs0, h5⟩, Mid, k1, k2⟩ := pr_key l hV (xs (nI (i + 1)).toNatClampNeg) (xs (nI (i + 2)).toNatClampNeg) (xs (nI (i + 3)).toNatClampNeg) (xs (nI (i + 4)).toNatClampNeg)
  refine v_aload_n C dL_law_834 rfl rfl ?_
  refine v_aload_n C dL_law_835 rfl rfl ?_
  refine v_iload_n C dL_law_836 rfl rfl ?_
  refine v_iconst (v := 1) C dL_law_837 (by decide) ?_
  refine v_iadd C dL_law_838 ?_
  refine v_tov (y := nI (i + 1)) (nI_add i 1) ?_
  refine v_sld C hX hbl hbA (vp_in_nI (by omega) (by omega)) dL_law_839 ?_
  refine v_aload_n C dL_law_840 rfl rfl ?_
  refine v_iload_n C dL_law_841 rfl rfl ?_
  refine v_iconst (v := 2) C dL_law_842 (by decide) ?_
  refine v_iadd C dL_law_843 ?_
  refine v_tov (y := nI (i + 2)) (nI_add i 2) ?_
  refine v_sld C hX hbl hbA (vp_in_nI (by omega) (by omega)) dL_law_844 ?_
  refine v_aload_n C dL_law_845 rfl rfl ?_
  refine v_iload_n C dL_law_846 rfl rfl ?_
  refine v_iconst (v := 3) C dL_law_847 (by decide) ?_
  refine v_iadd C dL_law_848 ?_
  refine v_tov (y := nI (i + 3)) (nI_add i 3) ?_
  refine v_sld C hX hbl hbA (vp_in_nI (by omega) (by omega)) dL_law_849 ?_
  refine v_aload_n C dL_law_850 rfl rfl ?_
  refine v_iload_n C dL_law_851 rfl rfl ?_
  refine v_iconst (v := 4) C dL_law_852 (by decide) ?_
  refine v_iadd C dL_law_853 ?_
  refine v_tov (y := nI (i + 4)) (nI_add i 4) ?_
  refine v_sld C hX hbl hbA (vp_in_nI (by omega) (by omega)) dL_law_854 ?_
  refine v_callVi C k1 (cwV 4 C.1.2.2.2.2 gL_law_X5_key rfl rfl rfl (by decide +kernel) ⟨(Nat.le_of_ble_eq_true rfl), (Nat.le_of_ble_eq_true rfl)⟩) 0 6 h5 rfl rfl rfl (Nat.le_of_ble_eq_true rfl) dL_law_855 ⟨show cells + 0 ≤ 600000 by omega, show slots + 0 ≤ 7302250 by omega⟩ (fun r w1 hp => ?_)
  obtain ⟨⟨fs1, h6⟩, k3⟩ := k2 r w1 hp
  refine v_aload_n C dL_law_858 rfl rfl ?_
  refine v_aload_n C dL_law_859 rfl rfl ?_
  refine v_iload_n C dL_law_860 rfl rfl ?_
  refine v_iconst (v := 1) C dL_law_861 (by decide) ?_
  refine v_iadd C dL_law_862 ?_
  refine v_tov (y := nI (i + 1)) (nI_add i 1) ?_
  refine v_sld C hX hbl hbA (vp_in_nI (by omega) (by omega)) dL_law_863 ?_
  refine v_aload_n C dL_law_864 rfl rfl ?_
  refine v_iload_n C dL_law_865 rfl rfl ?_
  refine v_iconst (v := 2) C dL_law_866 (by decide) ?_
  refine v_iadd C dL_law_867 ?_
  refine v_tov (y := nI (i + 2)) (nI_add i 2) ?_
  refine v_sld C hX hbl hbA (vp_in_nI (by omega) (by omega)) dL_law_868 ?_
  refine v_aload_n C dL_law_869 rfl rfl ?_
  refine v_iload_n C dL_law_870 rfl rfl ?_
  refine v_iconst (v := 3) C dL_law_871 (by decide) ?_
  refine v_iadd C dL_law_872 ?_
  refine v_tov (y := nI (i + 3)) (nI_add i 3) ?_
  refine v_sld C hX hbl hbA (vp_in_nI (by omega) (by omega)) dL_law_873 ?_
  refine v_aload_n C dL_law_874 rfl rfl ?_
  refine v_iload_n C dL_law_875 rfl rfl ?_
  refine v_iconst (v := 4) C dL_law_876 (by decide) ?_
  refine v_iadd C dL_law_877 ?_
  refine v_tov (y := nI (i + 4)) (nI_add i 4) ?_
  refine v_sld C hX hbl hbA (vp_in_nI (by omega) (by omega)) dL_law_878 ?_
  refine v_callVi C k3 (cwV 4 C.1.2.2.2.2 gL_law_X6_key rfl rfl rfl (by decide +kernel) ⟨(Nat.le_of_ble_eq_true rfl), (Nat.le_of_ble_eq_true rfl)⟩) 12 7 h6 rfl rfl rfl (Nat.le_of_ble_eq_true rfl) dL_law_879 ⟨show cells + 0 + 0 ≤ 600000 by omega, show slots + 0 + 0 ≤ 7302250 by omega⟩ (fun r2 w2 hp2 => ?_)
  obtain ⟨hr9, hV2⟩ := hp2
  exact v_icmp_eq (tgt := 1174) C dL_law_882 (by decide) (fun _ => v_widen (kc := cells + 4) (ks := slots + 6009) (by omega) (by omega) (hK w2 hV2)) (fun c9 => absurd hr9.symm c9)
set_option maxHeartbeats 4000000 in
set_option maxRecDepth 100000 in
theorem lc_works {p : Program} {l : Launch} {e : Env} {s : State} {m : MethodId} {below : List Frame} {meth : Method} {c : Code} {Q : State → Prop} {E : gE} {b L : Nat} {xs : Nat → Int32} (C : gC p s m #[Value.ref b] meth c E cL_law 4 wsL_law RL) (hX : va_X b L xs s s.heap) (hbl : b < s.heap.size) (hbA : ¬ gA E b) (hL : L ≤ 2560) {a1 b1 i cells slots : Nat} (hi : i + 5 ≤ L) (hce : cells + 4 ≤ 600000) (hsl : slots + 6009 ≤ 7302250) {zw : va_W} (hV : INV E a1 b1 zw) (hK : ∀ w1 : va_W, INV E a1 b1 w1 → V p l e room_1 s m #[Value.ref b] below meth c E 4 w1 (cells + 4) (slots + 6009) Q 1174 [(0, .ref b), (1, .ref a1), (2, .ref b1), (3, .int (nI i))] []) : V p l e room_1 s m #[Value.ref b] below meth c E 4 zw cells slots Q 887 [(0, .ref b), (1, .ref a1), (2, .ref b1), (3, .int (nI i))] [] := by
  obtain ⟨⟨fs0, h5⟩, Mid, k1, k2⟩ := pr_works l hV (xs (nI (i + 1)).toNatClampNeg) (xs (nI (i + 2)).toNatClampNeg) (xs (nI (i + 3)).toNatClampNeg)
  refine v_aload_n C dL_law_887 rfl rfl ?_
  refine v_aload_n C dL_law_888 rfl rfl ?_
  refine v_iload_n C dL_law_889 rfl rfl ?_
  refine v_iconst (v := 1) C dL_law_890 (by decide) ?_
  refine v_iadd C dL_law_891 ?_
  refine v_tov (y := nI (i + 1)) (nI_add i 1) ?_
  refine v_sld C hX hbl hbA (vp_in_nI (by omega) (by omega)) dL_law_892 ?_
  refine v_aload_n C dL_law_893 rfl rfl ?_
  refine v_iload_n C dL_law_894 rfl rfl ?_
  refine v_iconst (v := 2) C dL_law_895 (by decide) ?_
  refine v_iadd C dL_law_896 ?_
  refine v_tov (y := nI (i + 2)) (nI_add i 2) ?_
  refine v_sld C hX hbl hbA (vp_in_nI (by omega) (by omega)) dL_law_897 ?_
  refine v_aload_n C dL_law_898 rfl rfl ?_
  refine v_iload_n C dL_law_899 rfl rfl ?_
  refine v_iconst (v := 3) C dL_law_900 (by decide) ?_
  refine v_iadd C dL_law_901 ?_
  refine v_tov (y := nI (i + 3)) (nI_add i 3) ?_
  refine v_sld C hX hbl hbA (vp_in_nI (by omega) (by omega)) dL_law_902 ?_
  refine v_callVi C k1 (cwV 3 C.1.2.2.2.2 gL_law_X5_works rfl rfl rfl (by decide +kernel) ⟨(Nat.le_of_ble_eq_true rfl), (Nat.le_of_ble_eq_true rfl)⟩) 0 6 h5 rfl rfl rfl (Nat.le_of_ble_eq_true rfl) dL_law_903 ⟨show cells + 0 ≤ 600000 by omega, show slots + 0 ≤ 7302250 by omega⟩ (fun r w1 hp => ?_)
  obtain ⟨⟨fs1, h6⟩, k3⟩ := k2 r w1 hp
  refine v_aload_n C dL_law_906 rfl rfl ?_
  refine v_aload_n C dL_law_907 rfl rfl ?_
  refine v_iload_n C dL_law_908 rfl rfl ?_
  refine v_iconst (v := 1) C dL_law_909 (by decide) ?_
  refine v_iadd C dL_law_910 ?_
  refine v_tov (y := nI (i + 1)) (nI_add i 1) ?_
  refine v_sld C hX hbl hbA (vp_in_nI (by omega) (by omega)) dL_law_911 ?_
  refine v_aload_n C dL_law_912 rfl rfl ?_
  refine v_iload_n C dL_law_913 rfl rfl ?_
  refine v_iconst (v := 2) C dL_law_914 (by decide) ?_
  refine v_iadd C dL_law_915 ?_
  refine v_tov (y := nI (i + 2)) (nI_add i 2) ?_
  refine v_sld C hX hbl hbA (vp_in_nI (by omega) (by omega)) dL_law_916 ?_
  refine v_aload_n C dL_law_917 rfl rfl ?_
  refine v_iload_n C dL_law_918 rfl rfl ?_
  refine v_iconst (v := 3) C dL_law_919 (by decide) ?_
  refine v_iadd C dL_law_920 ?_
  refine v_tov (y := nI (i + 3)) (nI_add i 3) ?_
  refine v_sld C hX hbl hbA (vp_in_nI (by omega) (by omega)) dL_law_921 ?_
  refine v_callVi C k3 (cwV 3 C.1.2.2.2.2 gL_law_X6_works rfl rfl rfl (by decide +kernel) ⟨(Nat.le_of_ble_eq_true rfl), (Nat.le_of_ble_eq_true rfl)⟩) 12 7 h6 rfl rfl rfl (Nat.le_of_ble_eq_true rfl) dL_law_922 ⟨show cells + 0 + 0 ≤ 600000 by omega, show slots + 0 + 0 ≤ 7302250 by omega⟩ (fun r2 w2 hp2 => ?_)
  obtain ⟨hr9, hV2⟩ := hp2
  exact v_icmp_eq (tgt := 1174) C dL_law_925 (by decide) (fun _ => v_widen (kc := cells + 4) (ks := slots + 6009) (by omega) (by omega) (hK w2 hV2)) (fun c9 => absurd hr9.symm c9)
set_option maxHeartbeats 4000000 in
set_option maxRecDepth 100000 in
theorem lc_lacks {p : Program} {l : Launch} {e : Env} {s : State} {m : MethodId} {below : List Frame} {meth : Method} {c : Code} {Q : State → Prop} {E : gE} {b L : Nat} {xs : Nat → Int32} (C : gC p s m #[Value.ref b] meth c E cL_law 4 wsL_law RL) (hX : va_X b L xs s s.heap) (hbl : b < s.heap.size) (hbA : ¬ gA E b) (hL : L ≤ 2560) {a1 b1 i cells slots : Nat} (hi : i + 5 ≤ L) (hce : cells + 4 ≤ 600000) (hsl : slots + 6009 ≤ 7302250) {zw : va_W} (hV : INV E a1 b1 zw) (hK : ∀ w1 : va_W, INV E a1 b1 w1 → V p l e room_1 s m #[Value.ref b] below meth c E 4 w1 (cells + 4) (slots + 6009) Q 1174 [(0, .ref b), (1, .ref a1), (2, .ref b1), (3, .int (nI i))] []) : V p l e room_1 s m #[Value.ref b] below meth c E 4 zw cells slots Q 930 [(0, .ref b), (1, .ref a1), (2, .ref b1), (3, .int (nI i))] [] := by
  obtain ⟨⟨fs0, h5⟩, Mid, k1, k2⟩ := pr_lacks l hV (xs (nI (i + 1)).toNatClampNeg) (xs (nI (i + 2)).toNatClampNeg) (xs (nI (i + 3)).toNatClampNeg)
  refine v_aload_n C dL_law_930 rfl rfl ?_
  refine v_aload_n C dL_law_931 rfl rfl ?_
  refine v_iload_n C dL_law_932 rfl rfl ?_
  refine v_iconst (v := 1) C dL_law_933 (by decide) ?_
  refine v_iadd C dL_law_934 ?_
  refine v_tov (y := nI (i + 1)) (nI_add i 1) ?_
  refine v_sld C hX hbl hbA (vp_in_nI (by omega) (by omega)) dL_law_935 ?_
  refine v_aload_n C dL_law_936 rfl rfl ?_
  refine v_iload_n C dL_law_937 rfl rfl ?_
  refine v_iconst (v := 2) C dL_law_938 (by decide) ?_
  refine v_iadd C dL_law_939 ?_
  refine v_tov (y := nI (i + 2)) (nI_add i 2) ?_
  refine v_sld C hX hbl hbA (vp_in_nI (by omega) (by omega)) dL_law_940 ?_
  refine v_aload_n C dL_law_941 rfl rfl ?_
  refine v_iload_n C dL_law_942 rfl rfl ?_
  refine v_iconst (v := 3) C dL_law_943 (by decide) ?_
  refine v_iadd C dL_law_944 ?_
  refine v_tov (y := nI (i + 3)) (nI_add i 3) ?_
  refine v_sld C hX hbl hbA (vp_in_nI (by omega) (by omega)) dL_law_945 ?_
  refine v_callVi C k1 (cwV 3 C.1.2.2.2.2 gL_law_X5_lacks rfl rfl rfl (by decide +kernel) ⟨(Nat.le_of_ble_eq_true rfl), (Nat.le_of_ble_eq_true rfl)⟩) 0 6 h5 rfl rfl rfl (Nat.le_of_ble_eq_true rfl) dL_law_946 ⟨show cells + 0 ≤ 600000 by omega, show slots + 0 ≤ 7302250 by omega⟩ (fun r w1 hp => ?_)
  obtain ⟨⟨fs1, h6⟩, k3⟩ := k2 r w1 hp
  refine v_aload_n C dL_law_949 rfl rfl ?_
  refine v_aload_n C dL_law_950 rfl rfl ?_
  refine v_iload_n C dL_law_951 rfl rfl ?_
  refine v_iconst (v := 1) C dL_law_952 (by decide) ?_
  refine v_iadd C dL_law_953 ?_
  refine v_tov (y := nI (i + 1)) (nI_add i 1) ?_
  refine v_sld C hX hbl hbA (vp_in_nI (by omega) (by omega)) dL_law_954 ?_
  refine v_aload_n C dL_law_955 rfl rfl ?_
  refine v_iload_n C dL_law_956 rfl rfl ?_
  refine v_iconst (v := 2) C dL_law_957 (by decide) ?_
  refine v_iadd C dL_law_958 ?_
  refine v_tov (y := nI (i + 2)) (nI_add i 2) ?_
  refine v_sld C hX hbl hbA (vp_in_nI (by omega) (by omega)) dL_law_959 ?_
  refine v_aload_n C dL_law_960 rfl rfl ?_
  refine v_iload_n C dL_law_961 rfl rfl ?_
  refine v_iconst (v := 3) C dL_law_962 (by decide) ?_
  refine v_iadd C dL_law_963 ?_
  refine v_tov (y := nI (i + 3)) (nI_add i 3) ?_
  refine v_sld C hX hbl hbA (vp_in_nI (by omega) (by omega)) dL_law_964 ?_
  refine v_callVi C k3 (cwV 3 C.1.2.2.2.2 gL_law_X6_lacks rfl rfl rfl (by decide +kernel) ⟨(Nat.le_of_ble_eq_true rfl), (Nat.le_of_ble_eq_true rfl)⟩) 12 7 h6 rfl rfl rfl (Nat.le_of_ble_eq_true rfl) dL_law_965 ⟨show cells + 0 + 0 ≤ 600000 by omega, show slots + 0 + 0 ≤ 7302250 by omega⟩ (fun r2 w2 hp2 => ?_)
  obtain ⟨hr9, hV2⟩ := hp2
  exact v_icmp_eq (tgt := 1174) C dL_law_968 (by decide) (fun _ => v_widen (kc := cells + 4) (ks := slots + 6009) (by omega) (by omega) (hK w2 hV2)) (fun c9 => absurd hr9.symm c9)
set_option maxHeartbeats 4000000 in
set_option maxRecDepth 100000 in
theorem lc_weigh {p : Program} {l : Launch} {e : Env} {s : State} {m : MethodId} {below : List Frame} {meth : Method} {c : Code} {Q : State → Prop} {E : gE} {b L : Nat} {xs : Nat → Int32} (C : gC p s m #[Value.ref b] meth c E cL_law 4 wsL_law RL) (hX : va_X b L xs s s.heap) (hbl : b < s.heap.size) (hbA : ¬ gA E b) (hL : L ≤ 2560) {a1 b1 i cells slots : Nat} (hi : i + 5 ≤ L) (hce : cells + 4 ≤ 600000) (hsl : slots + 6009 ≤ 7302250) {zw : va_W} (hV : INV E a1 b1 zw) (hK : ∀ w1 : va_W, INV E a1 b1 w1 → V p l e room_1 s m #[Value.ref b] below meth c E 4 w1 (cells + 4) (slots + 6009) Q 1174 [(0, .ref b), (1, .ref a1), (2, .ref b1), (3, .int (nI i))] []) : V p l e room_1 s m #[Value.ref b] below meth c E 4 zw cells slots Q 973 [(0, .ref b), (1, .ref a1), (2, .ref b1), (3, .int (nI i))] [] := by
  by_cases h0 : (xs (nI (i + 1)).toNatClampNeg) = 0
  · obtain ⟨⟨fs0, h5⟩, Mid, k1, k2⟩ := pr_weigh l hV 0 (xs (nI (i + 2)).toNatClampNeg) (xs (nI (i + 3)).toNatClampNeg)
    refine v_aload_n C dL_law_973 rfl rfl ?_
    refine v_aload_n C dL_law_974 rfl rfl ?_
    refine v_iload_n C dL_law_975 rfl rfl ?_
    refine v_iconst (v := 1) C dL_law_976 (by decide) ?_
    refine v_iadd C dL_law_977 ?_
    refine v_tov (y := nI (i + 1)) (nI_add i 1) ?_
    refine v_sld C hX hbl hbA (vp_in_nI (by omega) (by omega)) dL_law_978 ?_
    refine v_if_eq (tgt := 986) C dL_law_979 (by decide) (fun c979 => ?_) (fun c979 => absurd h0 c979)
    refine v_iconst (v := 0) C dL_law_986 (by decide) ?_
    refine v_aload_n C dL_law_987 rfl rfl ?_
    refine v_iload_n C dL_law_988 rfl rfl ?_
    refine v_iconst (v := 2) C dL_law_989 (by decide) ?_
    refine v_iadd C dL_law_990 ?_
    refine v_tov (y := nI (i + 2)) (nI_add i 2) ?_
    refine v_sld C hX hbl hbA (vp_in_nI (by omega) (by omega)) dL_law_991 ?_
    refine v_aload_n C dL_law_992 rfl rfl ?_
    refine v_iload_n C dL_law_993 rfl rfl ?_
    refine v_iconst (v := 3) C dL_law_994 (by decide) ?_
    refine v_iadd C dL_law_995 ?_
    refine v_tov (y := nI (i + 3)) (nI_add i 3) ?_
    refine v_sld C hX hbl hbA (vp_in_nI (by omega) (by omega)) dL_law_996 ?_
    refine v_callVi C k1 (cwV 3 C.1.2.2.2.2 gL_law_X5_weigh rfl rfl rfl (by decide +kernel) ⟨(Nat.le_of_ble_eq_true rfl), (Nat.le_of_ble_eq_true rfl)⟩) 0 6 h5 rfl rfl rfl (Nat.le_of_ble_eq_true rfl) dL_law_997 ⟨show cells + 0 ≤ 600000 by omega, show slots + 0 ≤ 7302250 by omega⟩ (fun r w1 hp => ?_)
    obtain ⟨⟨fs1, h6⟩, k3⟩ := k2 r w1 hp
    refine v_aload_n C dL_law_1000 rfl rfl ?_
    refine v_aload_n C dL_law_1001 rfl rfl ?_
    refine v_iload_n C dL_law_1002 rfl rfl ?_
    refine v_iconst (v := 1) C dL_law_1003 (by decide) ?_
    refine v_iadd C dL_law_1004 ?_
    refine v_tov (y := nI (i + 1)) (nI_add i 1) ?_
    refine v_sld C hX hbl hbA (vp_in_nI (by omega) (by omega)) dL_law_1005 ?_
    refine v_if_eq (tgt := 1013) C dL_law_1006 (by decide) (fun c1006 => ?_) (fun c1006 => absurd h0 c1006)
    refine v_iconst (v := 0) C dL_law_1013 (by decide) ?_
    refine v_aload_n C dL_law_1014 rfl rfl ?_
    refine v_iload_n C dL_law_1015 rfl rfl ?_
    refine v_iconst (v := 2) C dL_law_1016 (by decide) ?_
    refine v_iadd C dL_law_1017 ?_
    refine v_tov (y := nI (i + 2)) (nI_add i 2) ?_
    refine v_sld C hX hbl hbA (vp_in_nI (by omega) (by omega)) dL_law_1018 ?_
    refine v_aload_n C dL_law_1019 rfl rfl ?_
    refine v_iload_n C dL_law_1020 rfl rfl ?_
    refine v_iconst (v := 3) C dL_law_1021 (by decide) ?_
    refine v_iadd C dL_law_1022 ?_
    refine v_tov (y := nI (i + 3)) (nI_add i 3) ?_
    refine v_sld C hX hbl hbA (vp_in_nI (by omega) (by omega)) dL_law_1023 ?_
    refine v_callVi C k3 (cwV 3 C.1.2.2.2.2 gL_law_X6_weigh rfl rfl rfl (by decide +kernel) ⟨(Nat.le_of_ble_eq_true rfl), (Nat.le_of_ble_eq_true rfl)⟩) 12 7 h6 rfl rfl rfl (Nat.le_of_ble_eq_true rfl) dL_law_1024 ⟨show cells + 0 + 0 ≤ 600000 by omega, show slots + 0 + 0 ≤ 7302250 by omega⟩ (fun r2 w2 hp2 => ?_)
    obtain ⟨hr9, hV2⟩ := hp2
    exact v_icmp_eq (tgt := 1174) C dL_law_1027 (by decide) (fun _ => v_widen (kc := cells + 4) (ks := slots + 6009) (by omega) (by omega) (hK w2 hV2)) (fun c9 => absurd hr9.symm c9)
  · obtain ⟨⟨fs0, h5⟩, Mid, k1, k2⟩ := pr_weigh l hV 1 (xs (nI (i + 2)).toNatClampNeg) (xs (nI (i + 3)).toNatClampNeg)
    refine v_aload_n C dL_law_973 rfl rfl ?_
    refine v_aload_n C dL_law_974 rfl rfl ?_
    refine v_iload_n C dL_law_975 rfl rfl ?_
    refine v_iconst (v := 1) C dL_law_976 (by decide) ?_
    refine v_iadd C dL_law_977 ?_
    refine v_tov (y := nI (i + 1)) (nI_add i 1) ?_
    refine v_sld C hX hbl hbA (vp_in_nI (by omega) (by omega)) dL_law_978 ?_
    refine v_if_eq (tgt := 986) C dL_law_979 (by decide) (fun c979 => absurd c979 h0) (fun c979 => ?_)
    refine v_iconst (v := 1) C dL_law_982 (by decide) ?_
    refine v_goto (tgt := 987) C dL_law_983 (by decide) ?_
    refine v_aload_n C dL_law_987 rfl rfl ?_
    refine v_iload_n C dL_law_988 rfl rfl ?_
    refine v_iconst (v := 2) C dL_law_989 (by decide) ?_
    refine v_iadd C dL_law_990 ?_
    refine v_tov (y := nI (i + 2)) (nI_add i 2) ?_
    refine v_sld C hX hbl hbA (vp_in_nI (by omega) (by omega)) dL_law_991 ?_
    refine v_aload_n C dL_law_992 rfl rfl ?_
    refine v_iload_n C dL_law_993 rfl rfl ?_
    refine v_iconst (v := 3) C dL_law_994 (by decide) ?_
    refine v_iadd C dL_law_995 ?_
    refine v_tov (y := nI (i + 3)) (nI_add i 3) ?_
    refine v_sld C hX hbl hbA (vp_in_nI (by omega) (by omega)) dL_law_996 ?_
    refine v_callVi C k1 (cwV 3 C.1.2.2.2.2 gL_law_X5_weigh rfl rfl rfl (by decide +kernel) ⟨(Nat.le_of_ble_eq_true rfl), (Nat.le_of_ble_eq_true rfl)⟩) 0 6 h5 rfl rfl rfl (Nat.le_of_ble_eq_true rfl) dL_law_997 ⟨show cells + 0 ≤ 600000 by omega, show slots + 0 ≤ 7302250 by omega⟩ (fun r w1 hp => ?_)
    obtain ⟨⟨fs1, h6⟩, k3⟩ := k2 r w1 hp
    refine v_aload_n C dL_law_1000 rfl rfl ?_
    refine v_aload_n C dL_law_1001 rfl rfl ?_
    refine v_iload_n C dL_law_1002 rfl rfl ?_
    refine v_iconst (v := 1) C dL_law_1003 (by decide) ?_
    refine v_iadd C dL_law_1004 ?_
    refine v_tov (y := nI (i + 1)) (nI_add i 1) ?_
    refine v_sld C hX hbl hbA (vp_in_nI (by omega) (by omega)) dL_law_1005 ?_
    refine v_if_eq (tgt := 1013) C dL_law_1006 (by decide) (fun c1006 => absurd c1006 h0) (fun c1006 => ?_)
    refine v_iconst (v := 1) C dL_law_1009 (by decide) ?_
    refine v_goto (tgt := 1014) C dL_law_1010 (by decide) ?_
    refine v_aload_n C dL_law_1014 rfl rfl ?_
    refine v_iload_n C dL_law_1015 rfl rfl ?_
    refine v_iconst (v := 2) C dL_law_1016 (by decide) ?_
    refine v_iadd C dL_law_1017 ?_
    refine v_tov (y := nI (i + 2)) (nI_add i 2) ?_
    refine v_sld C hX hbl hbA (vp_in_nI (by omega) (by omega)) dL_law_1018 ?_
    refine v_aload_n C dL_law_1019 rfl rfl ?_
    refine v_iload_n C dL_law_1020 rfl rfl ?_
    refine v_iconst (v := 3) C dL_law_1021 (by decide) ?_
    refine v_iadd C dL_law_1022 ?_
    refine v_tov (y := nI (i + 3)) (nI_add i 3) ?_
    refine v_sld C hX hbl hbA (vp_in_nI (by omega) (by omega)) dL_law_1023 ?_
    refine v_callVi C k3 (cwV 3 C.1.2.2.2.2 gL_law_X6_weigh rfl rfl rfl (by decide +kernel) ⟨(Nat.le_of_ble_eq_true rfl), (Nat.le_of_ble_eq_true rfl)⟩) 12 7 h6 rfl rfl rfl (Nat.le_of_ble_eq_true rfl) dL_law_1024 ⟨show cells + 0 + 0 ≤ 600000 by omega, show slots + 0 + 0 ≤ 7302250 by omega⟩ (fun r2 w2 hp2 => ?_)
    obtain ⟨hr9, hV2⟩ := hp2
    exact v_icmp_eq (tgt := 1174) C dL_law_1027 (by decide) (fun _ => v_widen (kc := cells + 4) (ks := slots + 6009) (by omega) (by omega) (hK w2 hV2)) (fun c9 => absurd hr9.symm c9)
set_option maxHeartbeats 4000000 in
set_option maxRecDepth 100000 in
theorem lc_loss {p : Program} {l : Launch} {e : Env} {s : State} {m : MethodId} {below : List Frame} {meth : Method} {c : Code} {Q : State → Prop} {E : gE} {b L : Nat} {xs : Nat → Int32} (C : gC p s m #[Value.ref b] meth c E cL_law 4 wsL_law RL) (hX : va_X b L xs s s.heap) (hbl : b < s.heap.size) (hbA : ¬ gA E b) (hL : L ≤ 2560) {a1 b1 i cells slots : Nat} (hi : i + 5 ≤ L) (hce : cells + 4 ≤ 600000) (hsl : slots + 6009 ≤ 7302250) {zw : va_W} (hV : INV E a1 b1 zw) (hK : ∀ w1 : va_W, INV E a1 b1 w1 → V p l e room_1 s m #[Value.ref b] below meth c E 4 w1 (cells + 4) (slots + 6009) Q 1174 [(0, .ref b), (1, .ref a1), (2, .ref b1), (3, .int (nI i))] []) : V p l e room_1 s m #[Value.ref b] below meth c E 4 zw cells slots Q 1032 [(0, .ref b), (1, .ref a1), (2, .ref b1), (3, .int (nI i))] [] := by
  obtain ⟨⟨fs0, h5⟩, Mid, k1, k2⟩ := pr_loss l hV (xs (nI (i + 1)).toNatClampNeg)
  refine v_aload_n C dL_law_1032 rfl rfl ?_
  refine v_aload_n C dL_law_1033 rfl rfl ?_
  refine v_iload_n C dL_law_1034 rfl rfl ?_
  refine v_iconst (v := 1) C dL_law_1035 (by decide) ?_
  refine v_iadd C dL_law_1036 ?_
  refine v_tov (y := nI (i + 1)) (nI_add i 1) ?_
  refine v_sld C hX hbl hbA (vp_in_nI (by omega) (by omega)) dL_law_1037 ?_
  refine v_callVi C k1 (cwV 1 C.1.2.2.2.2 gL_law_X5_loss rfl rfl rfl (by decide +kernel) ⟨(Nat.le_of_ble_eq_true rfl), (Nat.le_of_ble_eq_true rfl)⟩) 0 6 h5 rfl rfl rfl (Nat.le_of_ble_eq_true rfl) dL_law_1038 ⟨show cells + 0 ≤ 600000 by omega, show slots + 0 ≤ 7302250 by omega⟩ (fun r w1 hp => ?_)
  obtain ⟨⟨fs1, h6⟩, k3⟩ := k2 r w1 hp
  refine v_aload_n C dL_law_1041 rfl rfl ?_
  refine v_aload_n C dL_law_1042 rfl rfl ?_
  refine v_iload_n C dL_law_1043 rfl rfl ?_
  refine v_iconst (v := 1) C dL_law_1044 (by decide) ?_
  refine v_iadd C dL_law_1045 ?_
  refine v_tov (y := nI (i + 1)) (nI_add i 1) ?_
  refine v_sld C hX hbl hbA (vp_in_nI (by omega) (by omega)) dL_law_1046 ?_
  refine v_callVi C k3 (cwV 1 C.1.2.2.2.2 gL_law_X6_loss rfl rfl rfl (by decide +kernel) ⟨(Nat.le_of_ble_eq_true rfl), (Nat.le_of_ble_eq_true rfl)⟩) 12 7 h6 rfl rfl rfl (Nat.le_of_ble_eq_true rfl) dL_law_1047 ⟨show cells + 0 + 0 ≤ 600000 by omega, show slots + 0 + 0 ≤ 7302250 by omega⟩ (fun r2 w2 hp2 => ?_)
  obtain ⟨hr9, hV2⟩ := hp2
  exact v_icmp_eq (tgt := 1174) C dL_law_1050 (by decide) (fun _ => v_widen (kc := cells + 4) (ks := slots + 6009) (by omega) (by omega) (hK w2 hV2)) (fun c9 => absurd hr9.symm c9)
set_option maxHeartbeats 4000000 in
set_option maxRecDepth 100000 in
theorem lc_plan {p : Program} {l : Launch} {e : Env} {s : State} {m : MethodId} {below : List Frame} {meth : Method} {c : Code} {Q : State → Prop} {E : gE} {b L : Nat} {xs : Nat → Int32} (C : gC p s m #[Value.ref b] meth c E cL_law 4 wsL_law RL) (hX : va_X b L xs s s.heap) (hbl : b < s.heap.size) (hbA : ¬ gA E b) (hL : L ≤ 2560) {a1 b1 i cells slots : Nat} (hi : i + 5 ≤ L) (hce : cells + 4 ≤ 600000) (hsl : slots + 6009 ≤ 7302250) {zw : va_W} (hV : INV E a1 b1 zw) (hK : ∀ w1 : va_W, INV E a1 b1 w1 → V p l e room_1 s m #[Value.ref b] below meth c E 4 w1 (cells + 4) (slots + 6009) Q 1174 [(0, .ref b), (1, .ref a1), (2, .ref b1), (3, .int (nI i))] []) : V p l e room_1 s m #[Value.ref b] below meth c E 4 zw cells slots Q 1055 [(0, .ref b), (1, .ref a1), (2, .ref b1), (3, .int (nI i))] [] := by
  obtain ⟨⟨fs0, h5⟩, Mid, k1, k2⟩ := pr_plan l hV (xs (nI (i + 1)).toNatClampNeg) (xs (nI (i + 2)).toNatClampNeg) (xs (nI (i + 3)).toNatClampNeg)
  refine v_aload_n C dL_law_1055 rfl rfl ?_
  refine v_aload_n C dL_law_1056 rfl rfl ?_
  refine v_iload_n C dL_law_1057 rfl rfl ?_
  refine v_iconst (v := 1) C dL_law_1058 (by decide) ?_
  refine v_iadd C dL_law_1059 ?_
  refine v_tov (y := nI (i + 1)) (nI_add i 1) ?_
  refine v_sld C hX hbl hbA (vp_in_nI (by omega) (by omega)) dL_law_1060 ?_
  refine v_aload_n C dL_law_1061 rfl rfl ?_
  refine v_iload_n C dL_law_1062 rfl rfl ?_
  refine v_iconst (v := 2) C dL_law_1063 (by decide) ?_
  refine v_iadd C dL_law_1064 ?_
  refine v_tov (y := nI (i + 2)) (nI_add i 2) ?_
  refine v_sld C hX hbl hbA (vp_in_nI (by omega) (by omega)) dL_law_1065 ?_
  refine v_aload_n C dL_law_1066 rfl rfl ?_
  refine v_iload_n C dL_law_1067 rfl rfl ?_
  refine v_iconst (v := 3) C dL_law_1068 (by decide) ?_
  refine v_iadd C dL_law_1069 ?_
  refine v_tov (y := nI (i + 3)) (nI_add i 3) ?_
  refine v_sld C hX hbl hbA (vp_in_nI (by omega) (by omega)) dL_law_1070 ?_
  refine v_callVi C k1 (cwV 3 C.1.2.2.2.2 gL_law_X5_plan rfl rfl rfl (by decide +kernel) ⟨(Nat.le_of_ble_eq_true rfl), (Nat.le_of_ble_eq_true rfl)⟩) 0 6 h5 rfl rfl rfl (Nat.le_of_ble_eq_true rfl) dL_law_1071 ⟨show cells + 0 ≤ 600000 by omega, show slots + 0 ≤ 7302250 by omega⟩ (fun r w1 hp => ?_)
  obtain ⟨⟨fs1, h6⟩, k3⟩ := k2 r w1 hp
  refine v_aload_n C dL_law_1074 rfl rfl ?_
  refine v_aload_n C dL_law_1075 rfl rfl ?_
  refine v_iload_n C dL_law_1076 rfl rfl ?_
  refine v_iconst (v := 1) C dL_law_1077 (by decide) ?_
  refine v_iadd C dL_law_1078 ?_
  refine v_tov (y := nI (i + 1)) (nI_add i 1) ?_
  refine v_sld C hX hbl hbA (vp_in_nI (by omega) (by omega)) dL_law_1079 ?_
  refine v_aload_n C dL_law_1080 rfl rfl ?_
  refine v_iload_n C dL_law_1081 rfl rfl ?_
  refine v_iconst (v := 2) C dL_law_1082 (by decide) ?_
  refine v_iadd C dL_law_1083 ?_
  refine v_tov (y := nI (i + 2)) (nI_add i 2) ?_
  refine v_sld C hX hbl hbA (vp_in_nI (by omega) (by omega)) dL_law_1084 ?_
  refine v_aload_n C dL_law_1085 rfl rfl ?_
  refine v_iload_n C dL_law_1086 rfl rfl ?_
  refine v_iconst (v := 3) C dL_law_1087 (by decide) ?_
  refine v_iadd C dL_law_1088 ?_
  refine v_tov (y := nI (i + 3)) (nI_add i 3) ?_
  refine v_sld C hX hbl hbA (vp_in_nI (by omega) (by omega)) dL_law_1089 ?_
  refine v_callVi C k3 (cwV 3 C.1.2.2.2.2 gL_law_X6_plan rfl rfl rfl (by decide +kernel) ⟨(Nat.le_of_ble_eq_true rfl), (Nat.le_of_ble_eq_true rfl)⟩) 12 7 h6 rfl rfl rfl (Nat.le_of_ble_eq_true rfl) dL_law_1090 ⟨show cells + 0 + 0 ≤ 600000 by omega, show slots + 0 + 0 ≤ 7302250 by omega⟩ (fun r2 w2 hp2 => ?_)
  obtain ⟨hr9, hV2⟩ := hp2
  exact v_icmp_eq (tgt := 1174) C dL_law_1093 (by decide) (fun _ => v_widen (kc := cells + 4) (ks := slots + 6009) (by omega) (by omega) (hK w2 hV2)) (fun c9 => absurd hr9.symm c9)
set_option maxHeartbeats 4000000 in
set_option maxRecDepth 100000 in
theorem lc_bill {p : Program} {l : Launch} {e : Env} {s : State} {m : MethodId} {below : List Frame} {meth : Method} {c : Code} {Q : State → Prop} {E : gE} {b L : Nat} {xs : Nat → Int32} (C : gC p s m #[Value.ref b] meth c E cL_law 4 wsL_law RL) (hX : va_X b L xs s s.heap) (hbl : b < s.heap.size) (hbA : ¬ gA E b) (hL : L ≤ 2560) {a1 b1 i cells slots : Nat} (hi : i + 5 ≤ L) (hce : cells + 4 ≤ 600000) (hsl : slots + 6009 ≤ 7302250) {zw : va_W} (hV : INV E a1 b1 zw) (hK : ∀ w1 : va_W, INV E a1 b1 w1 → V p l e room_1 s m #[Value.ref b] below meth c E 4 w1 (cells + 4) (slots + 6009) Q 1174 [(0, .ref b), (1, .ref a1), (2, .ref b1), (3, .int (nI i))] []) : V p l e room_1 s m #[Value.ref b] below meth c E 4 zw cells slots Q 1098 [(0, .ref b), (1, .ref a1), (2, .ref b1), (3, .int (nI i))] [] := by
  obtain ⟨⟨fs0, h5⟩, Mid, k1, k2⟩ := pr_bill l hV (xs (nI (i + 1)).toNatClampNeg) (xs (nI (i + 2)).toNatClampNeg) (xs (nI (i + 3)).toNatClampNeg) (xs (nI (i + 4)).toNatClampNeg)
  refine v_aload_n C dL_law_1098 rfl rfl ?_
  refine v_aload_n C dL_law_1099 rfl rfl ?_
  refine v_iload_n C dL_law_1100 rfl rfl ?_
  refine v_iconst (v := 1) C dL_law_1101 (by decide) ?_
  refine v_iadd C dL_law_1102 ?_
  refine v_tov (y := nI (i + 1)) (nI_add i 1) ?_
  refine v_sld C hX hbl hbA (vp_in_nI (by omega) (by omega)) dL_law_1103 ?_
  refine v_aload_n C dL_law_1104 rfl rfl ?_
  refine v_iload_n C dL_law_1105 rfl rfl ?_
  refine v_iconst (v := 2) C dL_law_1106 (by decide) ?_
  refine v_iadd C dL_law_1107 ?_
  refine v_tov (y := nI (i + 2)) (nI_add i 2) ?_
  refine v_sld C hX hbl hbA (vp_in_nI (by omega) (by omega)) dL_law_1108 ?_
  refine v_aload_n C dL_law_1109 rfl rfl ?_
  refine v_iload_n C dL_law_1110 rfl rfl ?_
  refine v_iconst (v := 3) C dL_law_1111 (by decide) ?_
  refine v_iadd C dL_law_1112 ?_
  refine v_tov (y := nI (i + 3)) (nI_add i 3) ?_
  refine v_sld C hX hbl hbA (vp_in_nI (by omega) (by omega)) dL_law_1113 ?_
  refine v_aload_n C dL_law_1114 rfl rfl ?_
  refine v_iload_n C dL_law_1115 rfl rfl ?_
  refine v_iconst (v := 4) C dL_law_1116 (by decide) ?_
  refine v_iadd C dL_law_1117 ?_
  refine v_tov (y := nI (i + 4)) (nI_add i 4) ?_
  refine v_sld C hX hbl hbA (vp_in_nI (by omega) (by omega)) dL_law_1118 ?_
  refine v_callVi C k1 (cwV 4 C.1.2.2.2.2 gL_law_X5_bill rfl rfl rfl (by decide +kernel) ⟨(Nat.le_of_ble_eq_true rfl), (Nat.le_of_ble_eq_true rfl)⟩) 0 6 h5 rfl rfl rfl (Nat.le_of_ble_eq_true rfl) dL_law_1119 ⟨show cells + 0 ≤ 600000 by omega, show slots + 0 ≤ 7302250 by omega⟩ (fun r w1 hp => ?_)
  obtain ⟨⟨fs1, h6⟩, k3⟩ := k2 r w1 hp
  refine v_aload_n C dL_law_1122 rfl rfl ?_
  refine v_aload_n C dL_law_1123 rfl rfl ?_
  refine v_iload_n C dL_law_1124 rfl rfl ?_
  refine v_iconst (v := 1) C dL_law_1125 (by decide) ?_
  refine v_iadd C dL_law_1126 ?_
  refine v_tov (y := nI (i + 1)) (nI_add i 1) ?_
  refine v_sld C hX hbl hbA (vp_in_nI (by omega) (by omega)) dL_law_1127 ?_
  refine v_aload_n C dL_law_1128 rfl rfl ?_
  refine v_iload_n C dL_law_1129 rfl rfl ?_
  refine v_iconst (v := 2) C dL_law_1130 (by decide) ?_
  refine v_iadd C dL_law_1131 ?_
  refine v_tov (y := nI (i + 2)) (nI_add i 2) ?_
  refine v_sld C hX hbl hbA (vp_in_nI (by omega) (by omega)) dL_law_1132 ?_
  refine v_aload_n C dL_law_1133 rfl rfl ?_
  refine v_iload_n C dL_law_1134 rfl rfl ?_
  refine v_iconst (v := 3) C dL_law_1135 (by decide) ?_
  refine v_iadd C dL_law_1136 ?_
  refine v_tov (y := nI (i + 3)) (nI_add i 3) ?_
  refine v_sld C hX hbl hbA (vp_in_nI (by omega) (by omega)) dL_law_1137 ?_
  refine v_aload_n C dL_law_1138 rfl rfl ?_
  refine v_iload_n C dL_law_1139 rfl rfl ?_
  refine v_iconst (v := 4) C dL_law_1140 (by decide) ?_
  refine v_iadd C dL_law_1141 ?_
  refine v_tov (y := nI (i + 4)) (nI_add i 4) ?_
  refine v_sld C hX hbl hbA (vp_in_nI (by omega) (by omega)) dL_law_1142 ?_
  refine v_callVi C k3 (cwV 4 C.1.2.2.2.2 gL_law_X6_bill rfl rfl rfl (by decide +kernel) ⟨(Nat.le_of_ble_eq_true rfl), (Nat.le_of_ble_eq_true rfl)⟩) 12 7 h6 rfl rfl rfl (Nat.le_of_ble_eq_true rfl) dL_law_1143 ⟨show cells + 0 + 0 ≤ 600000 by omega, show slots + 0 + 0 ≤ 7302250 by omega⟩ (fun r2 w2 hp2 => ?_)
  obtain ⟨hr9, hV2⟩ := hp2
  exact v_icmp_eq (tgt := 1174) C dL_law_1146 (by decide) (fun _ => v_widen (kc := cells + 4) (ks := slots + 6009) (by omega) (by omega) (hK w2 hV2)) (fun c9 => absurd hr9.symm c9)
set_option maxHeartbeats 4000000 in
set_option maxRecDepth 100000 in
theorem lc_count {p : Program} {l : Launch} {e : Env} {s : State} {m : MethodId} {below : List Frame} {meth : Method} {c : Code} {Q : State → Prop} {E : gE} {b L : Nat} {xs : Nat → Int32} (C : gC p s m #[Value.ref b] meth c E cL_law 4 wsL_law RL) (hX : va_X b L xs s s.heap) (hbl : b < s.heap.size) (hbA : ¬ gA E b) (hL : L ≤ 2560) {a1 b1 i cells slots : Nat} (hi : i + 5 ≤ L) (hce : cells + 4 ≤ 600000) (hsl : slots + 6009 ≤ 7302250) {zw : va_W} (hV : INV E a1 b1 zw) (hK : ∀ w1 : va_W, INV E a1 b1 w1 → V p l e room_1 s m #[Value.ref b] below meth c E 4 w1 (cells + 4) (slots + 6009) Q 1174 [(0, .ref b), (1, .ref a1), (2, .ref b1), (3, .int (nI i))] []) : V p l e room_1 s m #[Value.ref b] below meth c E 4 zw cells slots Q 1151 [(0, .ref b), (1, .ref a1), (2, .ref b1), (3, .int (nI i))] [] := by
  obtain ⟨⟨fs0, h5⟩, Mid, k1, k2⟩ := pr_count l hV (xs (nI (i + 1)).toNatClampNeg)
  refine v_aload_n C dL_law_1151 rfl rfl ?_
  refine v_aload_n C dL_law_1152 rfl rfl ?_
  refine v_iload_n C dL_law_1153 rfl rfl ?_
  refine v_iconst (v := 1) C dL_law_1154 (by decide) ?_
  refine v_iadd C dL_law_1155 ?_
  refine v_tov (y := nI (i + 1)) (nI_add i 1) ?_
  refine v_sld C hX hbl hbA (vp_in_nI (by omega) (by omega)) dL_law_1156 ?_
  refine v_callVi C k1 (cwV 1 C.1.2.2.2.2 gL_law_X5_count rfl rfl rfl (by decide +kernel) ⟨(Nat.le_of_ble_eq_true rfl), (Nat.le_of_ble_eq_true rfl)⟩) 0 6 h5 rfl rfl rfl (Nat.le_of_ble_eq_true rfl) dL_law_1157 ⟨show cells + 0 ≤ 600000 by omega, show slots + 0 ≤ 7302250 by omega⟩ (fun r w1 hp => ?_)
  obtain ⟨⟨fs1, h6⟩, k3⟩ := k2 r w1 hp
  refine v_aload_n C dL_law_1160 rfl rfl ?_
  refine v_aload_n C dL_law_1161 rfl rfl ?_
  refine v_iload_n C dL_law_1162 rfl rfl ?_
  refine v_iconst (v := 1) C dL_law_1163 (by decide) ?_
  refine v_iadd C dL_law_1164 ?_
  refine v_tov (y := nI (i + 1)) (nI_add i 1) ?_
  refine v_sld C hX hbl hbA (vp_in_nI (by omega) (by omega)) dL_law_1165 ?_
  refine v_callVi C k3 (cwV 1 C.1.2.2.2.2 gL_law_X6_count rfl rfl rfl (by decide +kernel) ⟨(Nat.le_of_ble_eq_true rfl), (Nat.le_of_ble_eq_true rfl)⟩) 12 7 h6 rfl rfl rfl (Nat.le_of_ble_eq_true rfl) dL_law_1166 ⟨show cells + 0 + 0 ≤ 600000 by omega, show slots + 0 + 0 ≤ 7302250 by omega⟩ (fun r2 w2 hp2 => ?_)
  obtain ⟨hr9, hV2⟩ := hp2
  exact v_icmp_eq (tgt := 1174) C dL_law_1169 (by decide) (fun _ => v_widen (kc := cells + 4) (ks := slots + 6009) (by omega) (by omega) (hK w2 hV2)) (fun c9 => absurd hr9.symm c9)
