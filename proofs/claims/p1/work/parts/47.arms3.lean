theorem dL_law_659 : decode cL_law 659 = .ok (.aload_n 1, 1) := by decide +kernel
theorem dL_law_660 : decode cL_law 660 = .ok (.aload_n 0, 1) := by decide +kernel
theorem dL_law_661 : decode cL_law 661 = .ok (.iload_n 3, 1) := by decide +kernel
theorem dL_law_662 : decode cL_law 662 = .ok (.iconst 1, 1) := by decide +kernel
theorem dL_law_663 : decode cL_law 663 = .ok (.iadd, 1) := by decide +kernel
theorem dL_law_664 : decode cL_law 664 = .ok (.iaload, 1) := by decide +kernel
theorem dL_law_665 : decode cL_law 665 = .ok (.invokevirtual 89, 3) := by decide +kernel
theorem dL_law_668 : decode cL_law 668 = .ok (.aload_n 2, 1) := by decide +kernel
theorem dL_law_669 : decode cL_law 669 = .ok (.aload_n 0, 1) := by decide +kernel
theorem dL_law_670 : decode cL_law 670 = .ok (.iload_n 3, 1) := by decide +kernel
theorem dL_law_671 : decode cL_law 671 = .ok (.iconst 1, 1) := by decide +kernel
theorem dL_law_672 : decode cL_law 672 = .ok (.iadd, 1) := by decide +kernel
theorem dL_law_673 : decode cL_law 673 = .ok (.iaload, 1) := by decide +kernel
theorem dL_law_674 : decode cL_law 674 = .ok (.invokevirtual 92, 3) := by decide +kernel
theorem dL_law_677 : decode cL_law 677 = .ok (.if_icmp .eq 166, 3) := by decide +kernel
theorem dL_law_682 : decode cL_law 682 = .ok (.aload_n 1, 1) := by decide +kernel
theorem dL_law_683 : decode cL_law 683 = .ok (.invokevirtual 93, 3) := by decide +kernel
theorem dL_law_686 : decode cL_law 686 = .ok (.aload_n 2, 1) := by decide +kernel
theorem dL_law_687 : decode cL_law 687 = .ok (.invokevirtual 96, 3) := by decide +kernel
theorem dL_law_690 : decode cL_law 690 = .ok (.if_icmp .eq 153, 3) := by decide +kernel
theorem dL_law_695 : decode cL_law 695 = .ok (.aload_n 1, 1) := by decide +kernel
theorem dL_law_696 : decode cL_law 696 = .ok (.invokevirtual 97, 3) := by decide +kernel
theorem dL_law_699 : decode cL_law 699 = .ok (.aload_n 2, 1) := by decide +kernel
theorem dL_law_700 : decode cL_law 700 = .ok (.invokevirtual 100, 3) := by decide +kernel
theorem dL_law_703 : decode cL_law 703 = .ok (.if_icmp .eq 140, 3) := by decide +kernel
theorem dL_law_708 : decode cL_law 708 = .ok (.aload_n 1, 1) := by decide +kernel
theorem dL_law_709 : decode cL_law 709 = .ok (.aload_n 0, 1) := by decide +kernel
theorem dL_law_710 : decode cL_law 710 = .ok (.iload_n 3, 1) := by decide +kernel
theorem dL_law_711 : decode cL_law 711 = .ok (.iconst 1, 1) := by decide +kernel
theorem dL_law_712 : decode cL_law 712 = .ok (.iadd, 1) := by decide +kernel
theorem dL_law_713 : decode cL_law 713 = .ok (.iaload, 1) := by decide +kernel
theorem dL_law_714 : decode cL_law 714 = .ok (.aload_n 0, 1) := by decide +kernel
theorem dL_law_715 : decode cL_law 715 = .ok (.iload_n 3, 1) := by decide +kernel
theorem dL_law_716 : decode cL_law 716 = .ok (.iconst 2, 1) := by decide +kernel
theorem dL_law_717 : decode cL_law 717 = .ok (.iadd, 1) := by decide +kernel
theorem dL_law_718 : decode cL_law 718 = .ok (.iaload, 1) := by decide +kernel
theorem dL_law_719 : decode cL_law 719 = .ok (.invokevirtual 101, 3) := by decide +kernel
theorem dL_law_722 : decode cL_law 722 = .ok (.aload_n 2, 1) := by decide +kernel
theorem dL_law_723 : decode cL_law 723 = .ok (.aload_n 0, 1) := by decide +kernel
theorem dL_law_724 : decode cL_law 724 = .ok (.iload_n 3, 1) := by decide +kernel
theorem dL_law_725 : decode cL_law 725 = .ok (.iconst 1, 1) := by decide +kernel
theorem dL_law_726 : decode cL_law 726 = .ok (.iadd, 1) := by decide +kernel
theorem dL_law_727 : decode cL_law 727 = .ok (.iaload, 1) := by decide +kernel
theorem dL_law_728 : decode cL_law 728 = .ok (.aload_n 0, 1) := by decide +kernel
theorem dL_law_729 : decode cL_law 729 = .ok (.iload_n 3, 1) := by decide +kernel
theorem dL_law_730 : decode cL_law 730 = .ok (.iconst 2, 1) := by decide +kernel
theorem dL_law_731 : decode cL_law 731 = .ok (.iadd, 1) := by decide +kernel
theorem dL_law_732 : decode cL_law 732 = .ok (.iaload, 1) := by decide +kernel
theorem dL_law_733 : decode cL_law 733 = .ok (.invokevirtual 104, 3) := by decide +kernel
theorem dL_law_736 : decode cL_law 736 = .ok (.if_icmp .eq 107, 3) := by decide +kernel
theorem dL_law_741 : decode cL_law 741 = .ok (.aload_n 1, 1) := by decide +kernel
theorem dL_law_742 : decode cL_law 742 = .ok (.invokevirtual 105, 3) := by decide +kernel
theorem dL_law_745 : decode cL_law 745 = .ok (.aload_n 2, 1) := by decide +kernel
theorem dL_law_746 : decode cL_law 746 = .ok (.invokevirtual 108, 3) := by decide +kernel
theorem dL_law_749 : decode cL_law 749 = .ok (.if_icmp .eq 94, 3) := by decide +kernel
theorem dL_law_754 : decode cL_law 754 = .ok (.aload_n 1, 1) := by decide +kernel
theorem dL_law_755 : decode cL_law 755 = .ok (.aload_n 0, 1) := by decide +kernel
theorem dL_law_756 : decode cL_law 756 = .ok (.iload_n 3, 1) := by decide +kernel
theorem dL_law_757 : decode cL_law 757 = .ok (.iconst 1, 1) := by decide +kernel
theorem dL_law_758 : decode cL_law 758 = .ok (.iadd, 1) := by decide +kernel
theorem dL_law_759 : decode cL_law 759 = .ok (.iaload, 1) := by decide +kernel
theorem dL_law_760 : decode cL_law 760 = .ok (.aload_n 0, 1) := by decide +kernel
theorem dL_law_761 : decode cL_law 761 = .ok (.iload_n 3, 1) := by decide +kernel
theorem dL_law_762 : decode cL_law 762 = .ok (.iconst 2, 1) := by decide +kernel
theorem dL_law_763 : decode cL_law 763 = .ok (.iadd, 1) := by decide +kernel
theorem dL_law_764 : decode cL_law 764 = .ok (.iaload, 1) := by decide +kernel
theorem dL_law_765 : decode cL_law 765 = .ok (.invokevirtual 109, 3) := by decide +kernel
theorem dL_law_768 : decode cL_law 768 = .ok (.aload_n 2, 1) := by decide +kernel
theorem dL_law_769 : decode cL_law 769 = .ok (.aload_n 0, 1) := by decide +kernel
theorem dL_law_770 : decode cL_law 770 = .ok (.iload_n 3, 1) := by decide +kernel
theorem dL_law_771 : decode cL_law 771 = .ok (.iconst 1, 1) := by decide +kernel
theorem dL_law_772 : decode cL_law 772 = .ok (.iadd, 1) := by decide +kernel
theorem dL_law_773 : decode cL_law 773 = .ok (.iaload, 1) := by decide +kernel
theorem dL_law_774 : decode cL_law 774 = .ok (.aload_n 0, 1) := by decide +kernel
theorem dL_law_775 : decode cL_law 775 = .ok (.iload_n 3, 1) := by decide +kernel
theorem dL_law_776 : decode cL_law 776 = .ok (.iconst 2, 1) := by decide +kernel
theorem dL_law_777 : decode cL_law 777 = .ok (.iadd, 1) := by decide +kernel
theorem dL_law_778 : decode cL_law 778 = .ok (.iaload, 1) := by decide +kernel
theorem dL_law_779 : decode cL_law 779 = .ok (.invokevirtual 112, 3) := by decide +kernel
theorem dL_law_782 : decode cL_law 782 = .ok (.if_icmp .eq 61, 3) := by decide +kernel
theorem dL_law_787 : decode cL_law 787 = .ok (.aload_n 1, 1) := by decide +kernel
theorem dL_law_788 : decode cL_law 788 = .ok (.aload_n 0, 1) := by decide +kernel
theorem dL_law_789 : decode cL_law 789 = .ok (.iload_n 3, 1) := by decide +kernel
theorem dL_law_790 : decode cL_law 790 = .ok (.iconst 1, 1) := by decide +kernel
theorem dL_law_791 : decode cL_law 791 = .ok (.iadd, 1) := by decide +kernel
theorem dL_law_792 : decode cL_law 792 = .ok (.iaload, 1) := by decide +kernel
theorem dL_law_793 : decode cL_law 793 = .ok (.aload_n 0, 1) := by decide +kernel
theorem dL_law_794 : decode cL_law 794 = .ok (.iload_n 3, 1) := by decide +kernel
theorem dL_law_795 : decode cL_law 795 = .ok (.iconst 2, 1) := by decide +kernel
theorem dL_law_796 : decode cL_law 796 = .ok (.iadd, 1) := by decide +kernel
theorem dL_law_797 : decode cL_law 797 = .ok (.iaload, 1) := by decide +kernel
theorem dL_law_798 : decode cL_law 798 = .ok (.aload_n 0, 1) := by decide +kernel
theorem dL_law_799 : decode cL_law 799 = .ok (.iload_n 3, 1) := by decide +kernel
theorem dL_law_800 : decode cL_law 800 = .ok (.iconst 3, 1) := by decide +kernel
theorem dL_law_801 : decode cL_law 801 = .ok (.iadd, 1) := by decide +kernel
theorem dL_law_802 : decode cL_law 802 = .ok (.iaload, 1) := by decide +kernel
theorem dL_law_803 : decode cL_law 803 = .ok (.invokevirtual 113, 3) := by decide +kernel
theorem dL_law_806 : decode cL_law 806 = .ok (.aload_n 2, 1) := by decide +kernel
theorem dL_law_807 : decode cL_law 807 = .ok (.aload_n 0, 1) := by decide +kernel
theorem dL_law_808 : decode cL_law 808 = .ok (.iload_n 3, 1) := by decide +kernel
theorem dL_law_809 : decode cL_law 809 = .ok (.iconst 1, 1) := by decide +kernel
theorem dL_law_810 : decode cL_law 810 = .ok (.iadd, 1) := by decide +kernel
theorem dL_law_811 : decode cL_law 811 = .ok (.iaload, 1) := by decide +kernel
theorem dL_law_812 : decode cL_law 812 = .ok (.aload_n 0, 1) := by decide +kernel
theorem dL_law_813 : decode cL_law 813 = .ok (.iload_n 3, 1) := by decide +kernel
theorem dL_law_814 : decode cL_law 814 = .ok (.iconst 2, 1) := by decide +kernel
theorem dL_law_815 : decode cL_law 815 = .ok (.iadd, 1) := by decide +kernel
theorem dL_law_816 : decode cL_law 816 = .ok (.iaload, 1) := by decide +kernel
theorem dL_law_817 : decode cL_law 817 = .ok (.aload_n 0, 1) := by decide +kernel
theorem dL_law_818 : decode cL_law 818 = .ok (.iload_n 3, 1) := by decide +kernel
theorem dL_law_819 : decode cL_law 819 = .ok (.iconst 3, 1) := by decide +kernel
theorem dL_law_820 : decode cL_law 820 = .ok (.iadd, 1) := by decide +kernel
theorem dL_law_821 : decode cL_law 821 = .ok (.iaload, 1) := by decide +kernel
theorem dL_law_822 : decode cL_law 822 = .ok (.invokevirtual 116, 3) := by decide +kernel
theorem dL_law_825 : decode cL_law 825 = .ok (.if_icmp .eq 18, 3) := by decide +kernel
theorem dL_law_830 : decode cL_law 830 = .ok (.aload_n 1, 1) := by decide +kernel
theorem dL_law_831 : decode cL_law 831 = .ok (.invokevirtual 117, 3) := by decide +kernel
theorem dL_law_834 : decode cL_law 834 = .ok (.aload_n 2, 1) := by decide +kernel
theorem dL_law_835 : decode cL_law 835 = .ok (.invokevirtual 120, 3) := by decide +kernel
theorem dL_law_838 : decode cL_law 838 = .ok (.if_icmp .eq 5, 3) := by decide +kernel
set_option maxHeartbeats 8000000 in
set_option maxRecDepth 100000 in
/-- the law at case 17: count -/
theorem arm_17 {p : Program} {l : Launch} {e : Env} {s : State} {m : MethodId} {below : List Frame} {meth : Method} {c : Code} {b : Nat} {xs : Nat → Int32} {A : Nat → Prop} {D : va_G} {x : Nat → ClassId} (C0 : LawC p s m meth c b 6 xs A D x) {n1 n2 n3 n4 n5 : Int32} (hn1 : xs (1 : Int32).toNatClampNeg = n1) (hn2 : xs (2 : Int32).toNatClampNeg = n2) (hn3 : xs (3 : Int32).toNatClampNeg = n3) (hn4 : xs (4 : Int32).toNatClampNeg = n4) (hn5 : xs (5 : Int32).toNatClampNeg = n5) (ph0 : Nat) (pf0 : Nat → Value) (pho : Nat) (pfh : Nat → Value) (pma : Nat) (pfm : Nat → Value) (ptg : Nat) (pf3 : Nat → Value) (ptl : Nat) (pf4 : Nat → Value) (pco : Nat) (pwa : Nat) (pf5 : Nat → Value) (qh0 : Nat) (qf0 : Nat → Value) (qna : Nat) (qgn : Nat → Int32) (h0_2 : pf0 2 = .ref pho) (h0_3 : pf0 3 = .ref pma) (h1_12 : pfh 12 = .int 0) (h1_2 : pfh 2 = .int 0) (h1_0 : pfh 0 = .ref ptg) (h1_14 : pfh 14 = .int 0) (h1_17 : pfh 17 = .ref pco) (h1_6 : pfh 6 = .int 0) (h1_8 : pfh 8 = .int 0) (h1_7 : pfh 7 = .ref pwa) (h1_15 : pfh 15 = .int 0) (h2_1 : pfm 1 = .ref ptl) (h2_4 : pfm 4 = .int 0) (h3_5 : pf3 5 = .int 0) (h4_5 : pf4 5 = .int 0) (h6_1 : pf5 1 = .int 0) (h7_196 : qf0 196 = .int 0) (h7_28 : qf0 28 = .int 0) (h7_8 : qf0 8 = .int 0) (h7_104 : qf0 104 = .int 0) (h7_161 : qf0 161 = .int 0) (h7_170 : qf0 170 = .int 0) (h7_171 : qf0 171 = .int 0) (h7_172 : qf0 172 = .int 0) (h7_173 : qf0 173 = .int 0) (h7_174 : qf0 174 = .int 0) (h7_83 : qf0 83 = .int 0) (h7_86 : qf0 86 = .int 0) (h7_85 : qf0 85 = .int 0) (h7_169 : qf0 169 = .int 0) (h7_106 : qf0 106 = .ref qna) (h8_0 : qgn 0 = -1) (h8_1 : qgn 1 = -1) (h8_2 : qgn 2 = -1) (h8_3 : qgn 3 = -1) (h8_4 : qgn 4 = -1) (h8_5 : qgn 5 = -1) {H : Heap} {locs : List Loc} {ls : Array Slot} (hP : va_P D vwCl [(ph0, .inr (11, zf 6 pf0)), (pho, .inr (0, zf 18 pfh)), (pma, .inr (2, zf 19 pfm)), (ptg, .inr (9, zf 8 pf3)), (ptl, .inr (9, zf 8 pf4)), (pco, .inl (x 0, 5, .inl (fun _ => 0))), (pwa, .inr (6, zf 3 pf5)), (qh0, .inr (12, zf 212 qf0)), (qna, .inl (x 0, 8, .inl qgn))] H) (hD : va_D A [(ph0, .inr (11, zf 6 pf0)), (pho, .inr (0, zf 18 pfh)), (pma, .inr (2, zf 19 pfm)), (ptg, .inr (9, zf 8 pf3)), (ptl, .inr (9, zf 8 pf4)), (pco, .inl (x 0, 5, .inl (fun _ => 0))), (pwa, .inr (6, zf 3 pf5)), (qh0, .inr (12, zf 212 qf0)), (qna, .inl (x 0, 8, .inl qgn))]) (hS : va_S A s.heap H locs) (hl : lv_has ls 4 [(3, .int 0), (2, .ref qh0), (1, .ref ph0), (0, .ref b)]) : W p l e room_1 s m #[Value.ref b] below meth c H locs 13405 3699129 (lw_Z below #[Value.ref b] s) (F0 m 659 ls []) := by
  obtain ⟨hx, hb, hr, hml, hown, hts, hX, hbl, hlocks, hZ, hA, hA2, hbA⟩ := id C0
  have hK := hZ.1
  refine lv_aload_n hx hb dL_law_659 rfl (lv_at hl 2 rfl) ?_
  refine lv_aload_n hx hb dL_law_660 rfl (lv_at hl 3 rfl) ?_
  refine lv_iload_n hx hb dL_law_661 rfl (lv_at hl 0 rfl) ?_
  refine lv_iconst (v := 1) hx hb dL_law_662 (by decide) ?_
  refine lv_iadd hx hb dL_law_663 ?_
  refine lv_topi (fun y_2 ex_1 => ?_)
  obtain rfl : y_2 = 1 := ex_1.trans (by decide)
  refine z_sld hx hb hX hbl hbA hS (z_in (by decide)) hn1 dL_law_664 ?_
  have hPc := hP.sub (ws' := [(ph0, .inr (11, zf 6 pf0)), (pho, .inr (0, zf 18 pfh)), (pma, .inr (2, zf 19 pfm)), (ptg, .inr (9, zf 8 pf3)), (ptl, .inr (9, zf 8 pf4)), (pco, .inl (x 0, 5, .inl (fun _ => 0))), (pwa, .inr (6, zf 3 pf5))]) [0, 1, 2, 3, 4, 5, 6] rfl
  have hDc := hD.sub (ws' := [(ph0, .inr (11, zf 6 pf0)), (pho, .inr (0, zf 18 pfh)), (pma, .inr (2, zf 19 pfm)), (ptg, .inr (9, zf 8 pf3)), (ptl, .inr (9, zf 8 pf4)), (pco, .inl (x 0, 5, .inl (fun _ => 0))), (pwa, .inr (6, zf 3 pf5))]) [0, 1, 2, 3, 4, 5, 6] (by decide) rfl
  have hFc := va_free (wc := [(ph0, .inr (11, zf 6 pf0)), (pho, .inr (0, zf 18 pfh)), (pma, .inr (2, zf 19 pfm)), (ptg, .inr (9, zf 8 pf3)), (ptl, .inr (9, zf 8 pf4)), (pco, .inl (x 0, 5, .inl (fun _ => 0))), (pwa, .inr (6, zf 3 pf5))]) hD hS hA [0, 1, 2, 3, 4, 5, 6] rfl
  refine va_calli (va_runV (As := [.int n1]) (rest := []) ⟨hx, hb, hml, hown, hts⟩ (c_count l D x n1 ph0 pf0 pho pfh pma pfm ptg pf3 ptl pf4 pco pwa pf5 H.size h0_2 h0_3 h1_12 h1_2 h1_0 h1_14 h1_17 h1_6 h1_8 h1_7 h1_15 h2_1 h2_4 h3_5 h4_5 h6_1) ⟨callB_of 1 hts (zgood (zm_257 _) rfl) rfl rfl rfl (hts _ (zm_168 _)) (hts _ (zm_882 _)) ⟨by decide, by decide, by decide +kernel⟩ ⟨Nat.le_of_ble_eq_true rfl, Nat.le_of_ble_eq_true rfl⟩, hts _ (zm_258 _), hts _ (zm_259 _)⟩ ⟨fun a U g mk q => by obtain ⟨q0, q1, qP, qK, qD⟩ := q; exact ⟨q0, q1, qP, ZK.calling (u := U) zN_ok rfl qK, qD⟩, va_recv hK hPc (ci := 11) (q0 := 0) rfl rfl, fun U hU hW => ⟨rfl, by rw [hU], by rw [hU]; exact hPc, ZK.warm zN_ok hW hZ, hDc.weaken (fun _ _ _ _ => trivial)⟩⟩ rfl rfl hl.1 rfl (lv_room (Nat.le_of_ble_eq_true rfl)) dL_law_665 ⟨Nat.le_of_ble_eq_true rfl, Nat.le_of_ble_eq_true rfl⟩) hS (fun q _ h => hFc q h) hFc (fun r_3 u t H1 locs ht hvm hw_3 hB hz1 hk1 hSn => ?_)
  have hP1 : va_P D vwCl [] H1 := z_P0
  have hD1 : va_D (va_A [(ph0, .inr (11, zf 6 pf0)), (pho, .inr (0, zf 18 pfh)), (pma, .inr (2, zf 19 pfm)), (ptg, .inr (9, zf 8 pf3)), (ptl, .inr (9, zf 8 pf4)), (pco, .inl (x 0, 5, .inl (fun _ => 0))), (pwa, .inr (6, zf 3 pf5))] H.size) [] := z_D0
  try dsimp only at hw_3
  obtain ⟨hPn, hDn⟩ := va_join (wr := [(qh0, .inr (12, zf 212 qf0)), (qna, .inl (x 0, 8, .inl qgn))]) (w1 := []) hP hD [0, 1, 2, 3, 4, 5, 6] [7, 8] rfl rfl (by decide) (by decide) hk1 hFc hP1 hD1
  clear hPc hDc hFc hP1 hD1 hk1 hz1
  generalize H1 = H at hPn hSn ⊢
  clear hP hD hS
  have hP : va_P D vwCl [(qh0, .inr (12, zf 212 qf0)), (qna, .inl (x 0, 8, .inl qgn))] H := hPn
  have hD : va_D A [(qh0, .inr (12, zf 212 qf0)), (qna, .inl (x 0, 8, .inl qgn))] := hDn
  have hS := hSn
  clear hPn hDn hSn
  refine W.widen (k := 13405) (n := 3699129) (Nat.le_of_ble_eq_true rfl) (Nat.le_of_ble_eq_true rfl) ?_
  obtain rfl : r_3 = (zCount n1) := hw_3
  refine lv_aload_n hx hb dL_law_668 rfl (lv_at hl 1 rfl) ?_
  refine lv_aload_n hx hb dL_law_669 rfl (lv_at hl 3 rfl) ?_
  refine lv_iload_n hx hb dL_law_670 rfl (lv_at hl 0 rfl) ?_
  refine lv_iconst (v := 1) hx hb dL_law_671 (by decide) ?_
  refine lv_iadd hx hb dL_law_672 ?_
  refine lv_topi (fun y_6 ex_5 => ?_)
  obtain rfl : y_6 = 1 := ex_5.trans (by decide)
  refine z_sld hx hb hX hbl hbA hS (z_in (by decide)) hn1 dL_law_673 ?_
  have hPc := hP.sub (ws' := [(qh0, .inr (12, zf 212 qf0)), (qna, .inl (x 0, 8, .inl qgn))]) [0, 1] rfl
  have hDc := hD.sub (ws' := [(qh0, .inr (12, zf 212 qf0)), (qna, .inl (x 0, 8, .inl qgn))]) [0, 1] (by decide) rfl
  have hFc := va_free (wc := [(qh0, .inr (12, zf 212 qf0)), (qna, .inl (x 0, 8, .inl qgn))]) hD hS hA [0, 1] rfl
  refine va_calli (va_runV (As := [.int n1]) (rest := [.int (zCount n1)]) ⟨hx, hb, hml, hown, hts⟩ (r_count l D x n1 qh0 qf0 qna qgn H.size h7_196 h7_28 h7_8 h7_104 h7_161 h7_170 h7_171 h7_172 h7_173 h7_174 h7_83 h7_86 h7_85 h7_169 h7_106 h8_0 h8_1 h8_2 h8_3 h8_4 h8_5) ⟨callB_of 1 hts (zgood (zm_749 _) rfl) rfl rfl rfl (hts _ (zm_459 _)) (hts _ (zm_883 _)) ⟨by decide, by decide, by decide +kernel⟩ ⟨Nat.le_of_ble_eq_true rfl, Nat.le_of_ble_eq_true rfl⟩, hts _ (zm_750 _), hts _ (zm_751 _)⟩ ⟨fun a U g mk q => by obtain ⟨q0, q1, qP, qK, qD⟩ := q; exact ⟨q0, q1, qP, ZK.calling (u := U) zN_ok rfl qK, qD⟩, va_recv hK hPc (ci := 12) (q0 := 0) rfl rfl, fun U hU hW => ⟨rfl, by rw [hU], by rw [hU]; exact hPc, ZK.warm zN_ok hW hZ, hDc.weaken (fun _ _ _ _ => trivial)⟩⟩ rfl rfl hl.1 rfl (lv_room (Nat.le_of_ble_eq_true rfl)) dL_law_674 ⟨Nat.le_of_ble_eq_true rfl, Nat.le_of_ble_eq_true rfl⟩) hS (fun q _ h => hFc q h) hFc (fun r_7 u t H1 locs ht hvm hw_7 hB hz1 hk1 hSn => ?_)
  have hP1 : va_P D vwCl [] H1 := z_P0
  have hD1 : va_D (va_A [(qh0, .inr (12, zf 212 qf0)), (qna, .inl (x 0, 8, .inl qgn))] H.size) [] := z_D0
  try dsimp only at hw_7
  obtain ⟨hPn, hDn⟩ := va_join (wr := []) (w1 := []) hP hD [0, 1] [] rfl rfl (by decide) (by decide) hk1 hFc hP1 hD1
  clear hPc hDc hFc hP1 hD1 hk1 hz1
  generalize H1 = H at hPn hSn ⊢
  clear hP hD hS
  have hP : va_P D vwCl [] H := hPn
  have hD : va_D A [] := hDn
  have hS := hSn
  clear hPn hDn hSn
  refine W.widen (k := 13405) (n := 3699129) (Nat.le_of_ble_eq_true rfl) (Nat.le_of_ble_eq_true rfl) ?_
  obtain rfl : r_7 = (zCount n1) := hw_7
  refine lv_icmp_eq (tgt := 843) hx hb dL_law_677 (by decide) (fun _ => ?_) (fun c9 => absurd (rfl) c9)
  exact law_tail C0 hS hl

set_option maxHeartbeats 8000000 in
set_option maxRecDepth 100000 in
/-- the law at case 18: sound -/
theorem arm_18 {p : Program} {l : Launch} {e : Env} {s : State} {m : MethodId} {below : List Frame} {meth : Method} {c : Code} {b : Nat} {xs : Nat → Int32} {A : Nat → Prop} {D : va_G} {x : Nat → ClassId} (C0 : LawC p s m meth c b 6 xs A D x) {n1 n2 n3 n4 n5 : Int32} (hn1 : xs (1 : Int32).toNatClampNeg = n1) (hn2 : xs (2 : Int32).toNatClampNeg = n2) (hn3 : xs (3 : Int32).toNatClampNeg = n3) (hn4 : xs (4 : Int32).toNatClampNeg = n4) (hn5 : xs (5 : Int32).toNatClampNeg = n5) (ph0 : Nat) (pf0 : Nat → Value) (pho : Nat) (pfh : Nat → Value) (pma : Nat) (pfm : Nat → Value) (ptg : Nat) (pf3 : Nat → Value) (ptl : Nat) (pf4 : Nat → Value) (qh0 : Nat) (qf0 : Nat → Value) (h0_2 : pf0 2 = .ref pho) (h0_3 : pf0 3 = .ref pma) (h1_12 : pfh 12 = .int 0) (h1_0 : pfh 0 = .ref ptg) (h2_1 : pfm 1 = .ref ptl) (h3_5 : pf3 5 = .int 0) (h4_5 : pf4 5 = .int 0) (h5_196 : qf0 196 = .int 0) {H : Heap} {locs : List Loc} {ls : Array Slot} (hP : va_P D vwCl [(ph0, .inr (11, zf 6 pf0)), (pho, .inr (0, zf 18 pfh)), (pma, .inr (2, zf 19 pfm)), (ptg, .inr (9, zf 8 pf3)), (ptl, .inr (9, zf 8 pf4)), (qh0, .inr (12, zf 212 qf0))] H) (hD : va_D A [(ph0, .inr (11, zf 6 pf0)), (pho, .inr (0, zf 18 pfh)), (pma, .inr (2, zf 19 pfm)), (ptg, .inr (9, zf 8 pf3)), (ptl, .inr (9, zf 8 pf4)), (qh0, .inr (12, zf 212 qf0))]) (hS : va_S A s.heap H locs) (hl : lv_has ls 4 [(3, .int 0), (2, .ref qh0), (1, .ref ph0), (0, .ref b)]) : W p l e room_1 s m #[Value.ref b] below meth c H locs 13405 3699129 (lw_Z below #[Value.ref b] s) (F0 m 682 ls []) := by
  obtain ⟨hx, hb, hr, hml, hown, hts, hX, hbl, hlocks, hZ, hA, hA2, hbA⟩ := id C0
  have hK := hZ.1
  refine lv_aload_n hx hb dL_law_682 rfl (lv_at hl 2 rfl) ?_
  have hPc := hP.sub (ws' := [(ph0, .inr (11, zf 6 pf0)), (pho, .inr (0, zf 18 pfh)), (pma, .inr (2, zf 19 pfm)), (ptg, .inr (9, zf 8 pf3)), (ptl, .inr (9, zf 8 pf4))]) [0, 1, 2, 3, 4] rfl
  have hDc := hD.sub (ws' := [(ph0, .inr (11, zf 6 pf0)), (pho, .inr (0, zf 18 pfh)), (pma, .inr (2, zf 19 pfm)), (ptg, .inr (9, zf 8 pf3)), (ptl, .inr (9, zf 8 pf4))]) [0, 1, 2, 3, 4] (by decide) rfl
  have hFc := va_free (wc := [(ph0, .inr (11, zf 6 pf0)), (pho, .inr (0, zf 18 pfh)), (pma, .inr (2, zf 19 pfm)), (ptg, .inr (9, zf 8 pf3)), (ptl, .inr (9, zf 8 pf4))]) hD hS hA [0, 1, 2, 3, 4] rfl
  refine va_calli (va_runV (As := []) (rest := []) ⟨hx, hb, hml, hown, hts⟩ (c_sound l D x ph0 pf0 pho pfh pma pfm ptg pf3 ptl pf4 H.size h0_2 h0_3 h1_12 h1_0 h2_1 h3_5 h4_5) ⟨callB_of 0 hts (zgood (zm_260 _) rfl) rfl rfl rfl (hts _ (zm_168 _)) (hts _ (zm_884 _)) ⟨by decide, by decide, by decide +kernel⟩ ⟨Nat.le_of_ble_eq_true rfl, Nat.le_of_ble_eq_true rfl⟩, hts _ (zm_261 _), hts _ (zm_262 _)⟩ ⟨fun a U g mk q => by obtain ⟨q0, q1, qP, qK, qD⟩ := q; exact ⟨q0, q1, qP, ZK.calling (u := U) zN_ok rfl qK, qD⟩, va_recv hK hPc (ci := 11) (q0 := 0) rfl rfl, fun U hU hW => ⟨rfl, by rw [hU], by rw [hU]; exact hPc, ZK.warm zN_ok hW hZ, hDc.weaken (fun _ _ _ _ => trivial)⟩⟩ rfl rfl hl.1 rfl (lv_room (Nat.le_of_ble_eq_true rfl)) dL_law_683 ⟨Nat.le_of_ble_eq_true rfl, Nat.le_of_ble_eq_true rfl⟩) hS (fun q _ h => hFc q h) hFc (fun r_1 u t H1 locs ht hvm hw_1 hB hz1 hk1 hSn => ?_)
  have hP1 : va_P D vwCl [] H1 := z_P0
  have hD1 : va_D (va_A [(ph0, .inr (11, zf 6 pf0)), (pho, .inr (0, zf 18 pfh)), (pma, .inr (2, zf 19 pfm)), (ptg, .inr (9, zf 8 pf3)), (ptl, .inr (9, zf 8 pf4))] H.size) [] := z_D0
  try dsimp only at hw_1
  obtain ⟨hPn, hDn⟩ := va_join (wr := [(qh0, .inr (12, zf 212 qf0))]) (w1 := []) hP hD [0, 1, 2, 3, 4] [5] rfl rfl (by decide) (by decide) hk1 hFc hP1 hD1
  clear hPc hDc hFc hP1 hD1 hk1 hz1
  generalize H1 = H at hPn hSn ⊢
  clear hP hD hS
  have hP : va_P D vwCl [(qh0, .inr (12, zf 212 qf0))] H := hPn
  have hD : va_D A [(qh0, .inr (12, zf 212 qf0))] := hDn
  have hS := hSn
  clear hPn hDn hSn
  refine W.widen (k := 13405) (n := 3699129) (Nat.le_of_ble_eq_true rfl) (Nat.le_of_ble_eq_true rfl) ?_
  obtain rfl : r_1 = 1 := hw_1
  refine lv_aload_n hx hb dL_law_686 rfl (lv_at hl 1 rfl) ?_
  have hPc := hP.sub (ws' := [(qh0, .inr (12, zf 212 qf0))]) [0] rfl
  have hDc := hD.sub (ws' := [(qh0, .inr (12, zf 212 qf0))]) [0] (by decide) rfl
  have hFc := va_free (wc := [(qh0, .inr (12, zf 212 qf0))]) hD hS hA [0] rfl
  refine va_calli (va_runV (As := []) (rest := [.int 1]) ⟨hx, hb, hml, hown, hts⟩ (r_sound l D x qh0 qf0 H.size h5_196) ⟨callB_of 0 hts (zgood (zm_759 _) rfl) rfl rfl rfl (hts _ (zm_459 _)) (hts _ (zm_885 _)) ⟨by decide, by decide, by decide +kernel⟩ ⟨Nat.le_of_ble_eq_true rfl, Nat.le_of_ble_eq_true rfl⟩, hts _ (zm_760 _), hts _ (zm_761 _)⟩ ⟨fun a U g mk q => by obtain ⟨q0, q1, qP, qK, qD⟩ := q; exact ⟨q0, q1, qP, ZK.calling (u := U) zN_ok rfl qK, qD⟩, va_recv hK hPc (ci := 12) (q0 := 0) rfl rfl, fun U hU hW => ⟨rfl, by rw [hU], by rw [hU]; exact hPc, ZK.warm zN_ok hW hZ, hDc.weaken (fun _ _ _ _ => trivial)⟩⟩ rfl rfl hl.1 rfl (lv_room (Nat.le_of_ble_eq_true rfl)) dL_law_687 ⟨Nat.le_of_ble_eq_true rfl, Nat.le_of_ble_eq_true rfl⟩) hS (fun q _ h => hFc q h) hFc (fun r_3 u t H1 locs ht hvm hw_3 hB hz1 hk1 hSn => ?_)
  have hP1 : va_P D vwCl [] H1 := z_P0
  have hD1 : va_D (va_A [(qh0, .inr (12, zf 212 qf0))] H.size) [] := z_D0
  try dsimp only at hw_3
  obtain ⟨hPn, hDn⟩ := va_join (wr := []) (w1 := []) hP hD [0] [] rfl rfl (by decide) (by decide) hk1 hFc hP1 hD1
  clear hPc hDc hFc hP1 hD1 hk1 hz1
  generalize H1 = H at hPn hSn ⊢
  clear hP hD hS
  have hP : va_P D vwCl [] H := hPn
  have hD : va_D A [] := hDn
  have hS := hSn
  clear hPn hDn hSn
  refine W.widen (k := 13405) (n := 3699129) (Nat.le_of_ble_eq_true rfl) (Nat.le_of_ble_eq_true rfl) ?_
  obtain rfl : r_3 = 1 := hw_3
  refine lv_icmp_eq (tgt := 843) hx hb dL_law_690 (by decide) (fun _ => ?_) (fun c9 => absurd (by decide) c9)
  exact law_tail C0 hS hl

set_option maxHeartbeats 8000000 in
set_option maxRecDepth 100000 in
/-- the law at case 19: sync -/
theorem arm_19 {p : Program} {l : Launch} {e : Env} {s : State} {m : MethodId} {below : List Frame} {meth : Method} {c : Code} {b : Nat} {xs : Nat → Int32} {A : Nat → Prop} {D : va_G} {x : Nat → ClassId} (C0 : LawC p s m meth c b 6 xs A D x) {n1 n2 n3 n4 n5 : Int32} (hn1 : xs (1 : Int32).toNatClampNeg = n1) (hn2 : xs (2 : Int32).toNatClampNeg = n2) (hn3 : xs (3 : Int32).toNatClampNeg = n3) (hn4 : xs (4 : Int32).toNatClampNeg = n4) (hn5 : xs (5 : Int32).toNatClampNeg = n5) (ph0 : Nat) (pf0 : Nat → Value) (pho : Nat) (pfh : Nat → Value) (pwa : Nat) (pf1 : Nat → Value) (qh0 : Nat) (qf0 : Nat → Value) (h0_2 : pf0 2 = .ref pho) (h1_12 : pfh 12 = .int 0) (h1_7 : pfh 7 = .ref pwa) (h1_6 : pfh 6 = .int 0) (h2_1 : pf1 1 = .int 0) (h3_85 : qf0 85 = .int 0) (h3_83 : qf0 83 = .int 0) (h3_196 : qf0 196 = .int 0) {H : Heap} {locs : List Loc} {ls : Array Slot} (hP : va_P D vwCl [(ph0, .inr (11, zf 6 pf0)), (pho, .inr (0, zf 18 pfh)), (pwa, .inr (6, zf 3 pf1)), (qh0, .inr (12, zf 212 qf0))] H) (hD : va_D A [(ph0, .inr (11, zf 6 pf0)), (pho, .inr (0, zf 18 pfh)), (pwa, .inr (6, zf 3 pf1)), (qh0, .inr (12, zf 212 qf0))]) (hS : va_S A s.heap H locs) (hl : lv_has ls 4 [(3, .int 0), (2, .ref qh0), (1, .ref ph0), (0, .ref b)]) : W p l e room_1 s m #[Value.ref b] below meth c H locs 13405 3699129 (lw_Z below #[Value.ref b] s) (F0 m 695 ls []) := by
  obtain ⟨hx, hb, hr, hml, hown, hts, hX, hbl, hlocks, hZ, hA, hA2, hbA⟩ := id C0
  have hK := hZ.1
  refine lv_aload_n hx hb dL_law_695 rfl (lv_at hl 2 rfl) ?_
  have hPc := hP.sub (ws' := [(ph0, .inr (11, zf 6 pf0)), (pho, .inr (0, zf 18 pfh)), (pwa, .inr (6, zf 3 pf1))]) [0, 1, 2] rfl
  have hDc := hD.sub (ws' := [(ph0, .inr (11, zf 6 pf0)), (pho, .inr (0, zf 18 pfh)), (pwa, .inr (6, zf 3 pf1))]) [0, 1, 2] (by decide) rfl
  have hFc := va_free (wc := [(ph0, .inr (11, zf 6 pf0)), (pho, .inr (0, zf 18 pfh)), (pwa, .inr (6, zf 3 pf1))]) hD hS hA [0, 1, 2] rfl
  refine va_calli (va_runV (As := []) (rest := []) ⟨hx, hb, hml, hown, hts⟩ (c_sync l D x ph0 pf0 pho pfh pwa pf1 H.size h0_2 h1_12 h1_7 h1_6 h2_1) ⟨callB_of 0 hts (zgood (zm_263 _) rfl) rfl rfl rfl (hts _ (zm_168 _)) (hts _ (zm_886 _)) ⟨by decide, by decide, by decide +kernel⟩ ⟨Nat.le_of_ble_eq_true rfl, Nat.le_of_ble_eq_true rfl⟩, hts _ (zm_264 _), hts _ (zm_265 _)⟩ ⟨fun a U g mk q => by obtain ⟨q0, q1, qP, qK, qD⟩ := q; exact ⟨q0, q1, qP, ZK.calling (u := U) zN_ok rfl qK, qD⟩, va_recv hK hPc (ci := 11) (q0 := 0) rfl rfl, fun U hU hW => ⟨rfl, by rw [hU], by rw [hU]; exact hPc, ZK.warm zN_ok hW hZ, hDc.weaken (fun _ _ _ _ => trivial)⟩⟩ rfl rfl hl.1 rfl (lv_room (Nat.le_of_ble_eq_true rfl)) dL_law_696 ⟨Nat.le_of_ble_eq_true rfl, Nat.le_of_ble_eq_true rfl⟩) hS (fun q _ h => hFc q h) hFc (fun r_1 u t H1 locs ht hvm hw_1 hB hz1 hk1 hSn => ?_)
  have hP1 : va_P D vwCl [] H1 := z_P0
  have hD1 : va_D (va_A [(ph0, .inr (11, zf 6 pf0)), (pho, .inr (0, zf 18 pfh)), (pwa, .inr (6, zf 3 pf1))] H.size) [] := z_D0
  try dsimp only at hw_1
  obtain ⟨hPn, hDn⟩ := va_join (wr := [(qh0, .inr (12, zf 212 qf0))]) (w1 := []) hP hD [0, 1, 2] [3] rfl rfl (by decide) (by decide) hk1 hFc hP1 hD1
  clear hPc hDc hFc hP1 hD1 hk1 hz1
  generalize H1 = H at hPn hSn ⊢
  clear hP hD hS
  have hP : va_P D vwCl [(qh0, .inr (12, zf 212 qf0))] H := hPn
  have hD : va_D A [(qh0, .inr (12, zf 212 qf0))] := hDn
  have hS := hSn
  clear hPn hDn hSn
  refine W.widen (k := 13405) (n := 3699129) (Nat.le_of_ble_eq_true rfl) (Nat.le_of_ble_eq_true rfl) ?_
  obtain rfl : r_1 = 0 := hw_1
  refine lv_aload_n hx hb dL_law_699 rfl (lv_at hl 1 rfl) ?_
  have hPc := hP.sub (ws' := [(qh0, .inr (12, zf 212 qf0))]) [0] rfl
  have hDc := hD.sub (ws' := [(qh0, .inr (12, zf 212 qf0))]) [0] (by decide) rfl
  have hFc := va_free (wc := [(qh0, .inr (12, zf 212 qf0))]) hD hS hA [0] rfl
  refine va_calli (va_runV (As := []) (rest := [.int 0]) ⟨hx, hb, hml, hown, hts⟩ (r_sync l D x qh0 qf0 H.size h3_85 h3_83 h3_196) ⟨callB_of 0 hts (zgood (zm_762 _) rfl) rfl rfl rfl (hts _ (zm_459 _)) (hts _ (zm_887 _)) ⟨by decide, by decide, by decide +kernel⟩ ⟨Nat.le_of_ble_eq_true rfl, Nat.le_of_ble_eq_true rfl⟩, hts _ (zm_763 _), hts _ (zm_764 _)⟩ ⟨fun a U g mk q => by obtain ⟨q0, q1, qP, qK, qD⟩ := q; exact ⟨q0, q1, qP, ZK.calling (u := U) zN_ok rfl qK, qD⟩, va_recv hK hPc (ci := 12) (q0 := 0) rfl rfl, fun U hU hW => ⟨rfl, by rw [hU], by rw [hU]; exact hPc, ZK.warm zN_ok hW hZ, hDc.weaken (fun _ _ _ _ => trivial)⟩⟩ rfl rfl hl.1 rfl (lv_room (Nat.le_of_ble_eq_true rfl)) dL_law_700 ⟨Nat.le_of_ble_eq_true rfl, Nat.le_of_ble_eq_true rfl⟩) hS (fun q _ h => hFc q h) hFc (fun r_3 u t H1 locs ht hvm hw_3 hB hz1 hk1 hSn => ?_)
  have hP1 : va_P D vwCl [] H1 := z_P0
  have hD1 : va_D (va_A [(qh0, .inr (12, zf 212 qf0))] H.size) [] := z_D0
  try dsimp only at hw_3
  obtain ⟨hPn, hDn⟩ := va_join (wr := []) (w1 := []) hP hD [0] [] rfl rfl (by decide) (by decide) hk1 hFc hP1 hD1
  clear hPc hDc hFc hP1 hD1 hk1 hz1
  generalize H1 = H at hPn hSn ⊢
  clear hP hD hS
  have hP : va_P D vwCl [] H := hPn
  have hD : va_D A [] := hDn
  have hS := hSn
  clear hPn hDn hSn
  refine W.widen (k := 13405) (n := 3699129) (Nat.le_of_ble_eq_true rfl) (Nat.le_of_ble_eq_true rfl) ?_
  obtain rfl : r_3 = 0 := hw_3
  refine lv_icmp_eq (tgt := 843) hx hb dL_law_703 (by decide) (fun _ => ?_) (fun c9 => absurd (by decide) c9)
  exact law_tail C0 hS hl

set_option maxHeartbeats 8000000 in
set_option maxRecDepth 100000 in
/-- the law at case 20: cut -/
theorem arm_20 {p : Program} {l : Launch} {e : Env} {s : State} {m : MethodId} {below : List Frame} {meth : Method} {c : Code} {b : Nat} {xs : Nat → Int32} {A : Nat → Prop} {D : va_G} {x : Nat → ClassId} (C0 : LawC p s m meth c b 6 xs A D x) {n1 n2 n3 n4 n5 : Int32} (hn1 : xs (1 : Int32).toNatClampNeg = n1) (hn2 : xs (2 : Int32).toNatClampNeg = n2) (hn3 : xs (3 : Int32).toNatClampNeg = n3) (hn4 : xs (4 : Int32).toNatClampNeg = n4) (hn5 : xs (5 : Int32).toNatClampNeg = n5) (ph0 : Nat) (pf0 : Nat → Value) (pho : Nat) (pfh : Nat → Value) (qh0 : Nat) (qf0 : Nat → Value) (h0_2 : pf0 2 = .ref pho) (h1_12 : pfh 12 = .int 0) (h2_196 : qf0 196 = .int 0) {H : Heap} {locs : List Loc} {ls : Array Slot} (hP : va_P D vwCl [(ph0, .inr (11, zf 6 pf0)), (pho, .inr (0, zf 18 pfh)), (qh0, .inr (12, zf 212 qf0))] H) (hD : va_D A [(ph0, .inr (11, zf 6 pf0)), (pho, .inr (0, zf 18 pfh)), (qh0, .inr (12, zf 212 qf0))]) (hS : va_S A s.heap H locs) (hl : lv_has ls 4 [(3, .int 0), (2, .ref qh0), (1, .ref ph0), (0, .ref b)]) : W p l e room_1 s m #[Value.ref b] below meth c H locs 13405 3699129 (lw_Z below #[Value.ref b] s) (F0 m 708 ls []) := by
  obtain ⟨hx, hb, hr, hml, hown, hts, hX, hbl, hlocks, hZ, hA, hA2, hbA⟩ := id C0
  have hK := hZ.1
  refine lv_aload_n hx hb dL_law_708 rfl (lv_at hl 2 rfl) ?_
  refine lv_aload_n hx hb dL_law_709 rfl (lv_at hl 3 rfl) ?_
  refine lv_iload_n hx hb dL_law_710 rfl (lv_at hl 0 rfl) ?_
  refine lv_iconst (v := 1) hx hb dL_law_711 (by decide) ?_
  refine lv_iadd hx hb dL_law_712 ?_
  refine lv_topi (fun y_2 ex_1 => ?_)
  obtain rfl : y_2 = 1 := ex_1.trans (by decide)
  refine z_sld hx hb hX hbl hbA hS (z_in (by decide)) hn1 dL_law_713 ?_
  refine lv_aload_n hx hb dL_law_714 rfl (lv_at hl 3 rfl) ?_
  refine lv_iload_n hx hb dL_law_715 rfl (lv_at hl 0 rfl) ?_
  refine lv_iconst (v := 2) hx hb dL_law_716 (by decide) ?_
  refine lv_iadd hx hb dL_law_717 ?_
  refine lv_topi (fun y_4 ex_3 => ?_)
  obtain rfl : y_4 = 2 := ex_3.trans (by decide)
  refine z_sld hx hb hX hbl hbA hS (z_in (by decide)) hn2 dL_law_718 ?_
  have hPc := hP.sub (ws' := [(ph0, .inr (11, zf 6 pf0)), (pho, .inr (0, zf 18 pfh))]) [0, 1] rfl
  have hDc := hD.sub (ws' := [(ph0, .inr (11, zf 6 pf0)), (pho, .inr (0, zf 18 pfh))]) [0, 1] (by decide) rfl
  have hFc := va_free (wc := [(ph0, .inr (11, zf 6 pf0)), (pho, .inr (0, zf 18 pfh))]) hD hS hA [0, 1] rfl
  refine va_calli (va_runV (As := [.int n1, .int n2]) (rest := []) ⟨hx, hb, hml, hown, hts⟩ (c_cut l D x n1 n2 ph0 pf0 pho pfh H.size h0_2 h1_12) ⟨callB_of 2 hts (zgood (zm_266 _) rfl) rfl rfl rfl (hts _ (zm_168 _)) (hts _ (zm_888 _)) ⟨by decide, by decide, by decide +kernel⟩ ⟨Nat.le_of_ble_eq_true rfl, Nat.le_of_ble_eq_true rfl⟩, hts _ (zm_267 _), hts _ (zm_268 _)⟩ ⟨fun a U g mk q => by obtain ⟨q0, q1, qP, qK, qD⟩ := q; exact ⟨q0, q1, qP, ZK.calling (u := U) zN_ok rfl qK, qD⟩, va_recv hK hPc (ci := 11) (q0 := 0) rfl rfl, fun U hU hW => ⟨rfl, by rw [hU], by rw [hU]; exact hPc, ZK.warm zN_ok hW hZ, hDc.weaken (fun _ _ _ _ => trivial)⟩⟩ rfl rfl hl.1 rfl (lv_room (Nat.le_of_ble_eq_true rfl)) dL_law_719 ⟨Nat.le_of_ble_eq_true rfl, Nat.le_of_ble_eq_true rfl⟩) hS (fun q _ h => hFc q h) hFc (fun r_5 u t H1 locs ht hvm hw_5 hB hz1 hk1 hSn => ?_)
  have hP1 : va_P D vwCl [] H1 := z_P0
  have hD1 : va_D (va_A [(ph0, .inr (11, zf 6 pf0)), (pho, .inr (0, zf 18 pfh))] H.size) [] := z_D0
  try dsimp only at hw_5
  obtain ⟨hPn, hDn⟩ := va_join (wr := [(qh0, .inr (12, zf 212 qf0))]) (w1 := []) hP hD [0, 1] [2] rfl rfl (by decide) (by decide) hk1 hFc hP1 hD1
  clear hPc hDc hFc hP1 hD1 hk1 hz1
  generalize H1 = H at hPn hSn ⊢
  clear hP hD hS
  have hP : va_P D vwCl [(qh0, .inr (12, zf 212 qf0))] H := hPn
  have hD : va_D A [(qh0, .inr (12, zf 212 qf0))] := hDn
  have hS := hSn
  clear hPn hDn hSn
  refine W.widen (k := 13405) (n := 3699129) (Nat.le_of_ble_eq_true rfl) (Nat.le_of_ble_eq_true rfl) ?_
  obtain rfl : r_5 = (zCut n1 n2) := hw_5
  refine lv_aload_n hx hb dL_law_722 rfl (lv_at hl 1 rfl) ?_
  refine lv_aload_n hx hb dL_law_723 rfl (lv_at hl 3 rfl) ?_
  refine lv_iload_n hx hb dL_law_724 rfl (lv_at hl 0 rfl) ?_
  refine lv_iconst (v := 1) hx hb dL_law_725 (by decide) ?_
  refine lv_iadd hx hb dL_law_726 ?_
  refine lv_topi (fun y_8 ex_7 => ?_)
  obtain rfl : y_8 = 1 := ex_7.trans (by decide)
  refine z_sld hx hb hX hbl hbA hS (z_in (by decide)) hn1 dL_law_727 ?_
  refine lv_aload_n hx hb dL_law_728 rfl (lv_at hl 3 rfl) ?_
  refine lv_iload_n hx hb dL_law_729 rfl (lv_at hl 0 rfl) ?_
  refine lv_iconst (v := 2) hx hb dL_law_730 (by decide) ?_
  refine lv_iadd hx hb dL_law_731 ?_
  refine lv_topi (fun y_10 ex_9 => ?_)
  obtain rfl : y_10 = 2 := ex_9.trans (by decide)
  refine z_sld hx hb hX hbl hbA hS (z_in (by decide)) hn2 dL_law_732 ?_
  have hPc := hP.sub (ws' := [(qh0, .inr (12, zf 212 qf0))]) [0] rfl
  have hDc := hD.sub (ws' := [(qh0, .inr (12, zf 212 qf0))]) [0] (by decide) rfl
  have hFc := va_free (wc := [(qh0, .inr (12, zf 212 qf0))]) hD hS hA [0] rfl
  refine va_calli (va_runV (As := [.int n1, .int n2]) (rest := [.int (zCut n1 n2)]) ⟨hx, hb, hml, hown, hts⟩ (r_cut l D x n1 n2 qh0 qf0 H.size h2_196) ⟨callB_of 2 hts (zgood (zm_767 _) rfl) rfl rfl rfl (hts _ (zm_459 _)) (hts _ (zm_889 _)) ⟨by decide, by decide, by decide +kernel⟩ ⟨Nat.le_of_ble_eq_true rfl, Nat.le_of_ble_eq_true rfl⟩, hts _ (zm_768 _), hts _ (zm_769 _)⟩ ⟨fun a U g mk q => by obtain ⟨q0, q1, qP, qK, qD⟩ := q; exact ⟨q0, q1, qP, ZK.calling (u := U) zN_ok rfl qK, qD⟩, va_recv hK hPc (ci := 12) (q0 := 0) rfl rfl, fun U hU hW => ⟨rfl, by rw [hU], by rw [hU]; exact hPc, ZK.warm zN_ok hW hZ, hDc.weaken (fun _ _ _ _ => trivial)⟩⟩ rfl rfl hl.1 rfl (lv_room (Nat.le_of_ble_eq_true rfl)) dL_law_733 ⟨Nat.le_of_ble_eq_true rfl, Nat.le_of_ble_eq_true rfl⟩) hS (fun q _ h => hFc q h) hFc (fun r_11 u t H1 locs ht hvm hw_11 hB hz1 hk1 hSn => ?_)
  have hP1 : va_P D vwCl [] H1 := z_P0
  have hD1 : va_D (va_A [(qh0, .inr (12, zf 212 qf0))] H.size) [] := z_D0
  try dsimp only at hw_11
  obtain ⟨hPn, hDn⟩ := va_join (wr := []) (w1 := []) hP hD [0] [] rfl rfl (by decide) (by decide) hk1 hFc hP1 hD1
  clear hPc hDc hFc hP1 hD1 hk1 hz1
  generalize H1 = H at hPn hSn ⊢
  clear hP hD hS
  have hP : va_P D vwCl [] H := hPn
  have hD : va_D A [] := hDn
  have hS := hSn
  clear hPn hDn hSn
  refine W.widen (k := 13405) (n := 3699129) (Nat.le_of_ble_eq_true rfl) (Nat.le_of_ble_eq_true rfl) ?_
  obtain rfl : r_11 = (zCut n1 n2) := hw_11
  refine lv_icmp_eq (tgt := 843) hx hb dL_law_736 (by decide) (fun _ => ?_) (fun c9 => absurd (rfl) c9)
  exact law_tail C0 hS hl

set_option maxHeartbeats 8000000 in
set_option maxRecDepth 100000 in
/-- the law at case 21: start -/
theorem arm_21 {p : Program} {l : Launch} {e : Env} {s : State} {m : MethodId} {below : List Frame} {meth : Method} {c : Code} {b : Nat} {xs : Nat → Int32} {A : Nat → Prop} {D : va_G} {x : Nat → ClassId} (C0 : LawC p s m meth c b 6 xs A D x) {n1 n2 n3 n4 n5 : Int32} (hn1 : xs (1 : Int32).toNatClampNeg = n1) (hn2 : xs (2 : Int32).toNatClampNeg = n2) (hn3 : xs (3 : Int32).toNatClampNeg = n3) (hn4 : xs (4 : Int32).toNatClampNeg = n4) (hn5 : xs (5 : Int32).toNatClampNeg = n5) (ph0 : Nat) (pf0 : Nat → Value) (pho : Nat) (pfh : Nat → Value) (qh0 : Nat) (qf0 : Nat → Value) (h0_2 : pf0 2 = .ref pho) (h1_12 : pfh 12 = .int 0) (h2_196 : qf0 196 = .int 0) {H : Heap} {locs : List Loc} {ls : Array Slot} (hP : va_P D vwCl [(ph0, .inr (11, zf 6 pf0)), (pho, .inr (0, zf 18 pfh)), (qh0, .inr (12, zf 212 qf0))] H) (hD : va_D A [(ph0, .inr (11, zf 6 pf0)), (pho, .inr (0, zf 18 pfh)), (qh0, .inr (12, zf 212 qf0))]) (hS : va_S A s.heap H locs) (hl : lv_has ls 4 [(3, .int 0), (2, .ref qh0), (1, .ref ph0), (0, .ref b)]) : W p l e room_1 s m #[Value.ref b] below meth c H locs 13405 3699129 (lw_Z below #[Value.ref b] s) (F0 m 741 ls []) := by
  obtain ⟨hx, hb, hr, hml, hown, hts, hX, hbl, hlocks, hZ, hA, hA2, hbA⟩ := id C0
  have hK := hZ.1
  refine lv_aload_n hx hb dL_law_741 rfl (lv_at hl 2 rfl) ?_
  have hPc := hP.sub (ws' := [(ph0, .inr (11, zf 6 pf0)), (pho, .inr (0, zf 18 pfh))]) [0, 1] rfl
  have hDc := hD.sub (ws' := [(ph0, .inr (11, zf 6 pf0)), (pho, .inr (0, zf 18 pfh))]) [0, 1] (by decide) rfl
  have hFc := va_free (wc := [(ph0, .inr (11, zf 6 pf0)), (pho, .inr (0, zf 18 pfh))]) hD hS hA [0, 1] rfl
  refine va_calli (va_runV (As := []) (rest := []) ⟨hx, hb, hml, hown, hts⟩ (c_start l D x ph0 pf0 pho pfh H.size h0_2 h1_12) ⟨callB_of 0 hts (zgood (zm_269 _) rfl) rfl rfl rfl (hts _ (zm_168 _)) (hts _ (zm_890 _)) ⟨by decide, by decide, by decide +kernel⟩ ⟨Nat.le_of_ble_eq_true rfl, Nat.le_of_ble_eq_true rfl⟩, hts _ (zm_270 _), hts _ (zm_271 _)⟩ ⟨fun a U g mk q => by obtain ⟨q0, q1, qP, qK, qD⟩ := q; exact ⟨q0, q1, qP, ZK.calling (u := U) zN_ok rfl qK, qD⟩, va_recv hK hPc (ci := 11) (q0 := 0) rfl rfl, fun U hU hW => ⟨rfl, by rw [hU], by rw [hU]; exact hPc, ZK.warm zN_ok hW hZ, hDc.weaken (fun _ _ _ _ => trivial)⟩⟩ rfl rfl hl.1 rfl (lv_room (Nat.le_of_ble_eq_true rfl)) dL_law_742 ⟨Nat.le_of_ble_eq_true rfl, Nat.le_of_ble_eq_true rfl⟩) hS (fun q _ h => hFc q h) hFc (fun r_1 u t H1 locs ht hvm hw_1 hB hz1 hk1 hSn => ?_)
  have hP1 : va_P D vwCl [] H1 := z_P0
  have hD1 : va_D (va_A [(ph0, .inr (11, zf 6 pf0)), (pho, .inr (0, zf 18 pfh))] H.size) [] := z_D0
  try dsimp only at hw_1
  obtain ⟨hPn, hDn⟩ := va_join (wr := [(qh0, .inr (12, zf 212 qf0))]) (w1 := []) hP hD [0, 1] [2] rfl rfl (by decide) (by decide) hk1 hFc hP1 hD1
  clear hPc hDc hFc hP1 hD1 hk1 hz1
  generalize H1 = H at hPn hSn ⊢
  clear hP hD hS
  have hP : va_P D vwCl [(qh0, .inr (12, zf 212 qf0))] H := hPn
  have hD : va_D A [(qh0, .inr (12, zf 212 qf0))] := hDn
  have hS := hSn
  clear hPn hDn hSn
  refine W.widen (k := 13405) (n := 3699129) (Nat.le_of_ble_eq_true rfl) (Nat.le_of_ble_eq_true rfl) ?_
  obtain rfl : r_1 = (-3) := hw_1
  refine lv_aload_n hx hb dL_law_745 rfl (lv_at hl 1 rfl) ?_
  have hPc := hP.sub (ws' := [(qh0, .inr (12, zf 212 qf0))]) [0] rfl
  have hDc := hD.sub (ws' := [(qh0, .inr (12, zf 212 qf0))]) [0] (by decide) rfl
  have hFc := va_free (wc := [(qh0, .inr (12, zf 212 qf0))]) hD hS hA [0] rfl
  refine va_calli (va_runV (As := []) (rest := [.int (-3)]) ⟨hx, hb, hml, hown, hts⟩ (r_start l D x qh0 qf0 H.size h2_196) ⟨callB_of 0 hts (zgood (zm_770 _) rfl) rfl rfl rfl (hts _ (zm_459 _)) (hts _ (zm_891 _)) ⟨by decide, by decide, by decide +kernel⟩ ⟨Nat.le_of_ble_eq_true rfl, Nat.le_of_ble_eq_true rfl⟩, hts _ (zm_771 _), hts _ (zm_772 _)⟩ ⟨fun a U g mk q => by obtain ⟨q0, q1, qP, qK, qD⟩ := q; exact ⟨q0, q1, qP, ZK.calling (u := U) zN_ok rfl qK, qD⟩, va_recv hK hPc (ci := 12) (q0 := 0) rfl rfl, fun U hU hW => ⟨rfl, by rw [hU], by rw [hU]; exact hPc, ZK.warm zN_ok hW hZ, hDc.weaken (fun _ _ _ _ => trivial)⟩⟩ rfl rfl hl.1 rfl (lv_room (Nat.le_of_ble_eq_true rfl)) dL_law_746 ⟨Nat.le_of_ble_eq_true rfl, Nat.le_of_ble_eq_true rfl⟩) hS (fun q _ h => hFc q h) hFc (fun r_3 u t H1 locs ht hvm hw_3 hB hz1 hk1 hSn => ?_)
  have hP1 : va_P D vwCl [] H1 := z_P0
  have hD1 : va_D (va_A [(qh0, .inr (12, zf 212 qf0))] H.size) [] := z_D0
  try dsimp only at hw_3
  obtain ⟨hPn, hDn⟩ := va_join (wr := []) (w1 := []) hP hD [0] [] rfl rfl (by decide) (by decide) hk1 hFc hP1 hD1
  clear hPc hDc hFc hP1 hD1 hk1 hz1
  generalize H1 = H at hPn hSn ⊢
  clear hP hD hS
  have hP : va_P D vwCl [] H := hPn
  have hD : va_D A [] := hDn
  have hS := hSn
  clear hPn hDn hSn
  refine W.widen (k := 13405) (n := 3699129) (Nat.le_of_ble_eq_true rfl) (Nat.le_of_ble_eq_true rfl) ?_
  obtain rfl : r_3 = (-3) := hw_3
  refine lv_icmp_eq (tgt := 843) hx hb dL_law_749 (by decide) (fun _ => ?_) (fun c9 => absurd (by decide) c9)
  exact law_tail C0 hS hl

set_option maxHeartbeats 8000000 in
set_option maxRecDepth 100000 in
/-- the law at case 22: octet -/
theorem arm_22 {p : Program} {l : Launch} {e : Env} {s : State} {m : MethodId} {below : List Frame} {meth : Method} {c : Code} {b : Nat} {xs : Nat → Int32} {A : Nat → Prop} {D : va_G} {x : Nat → ClassId} (C0 : LawC p s m meth c b 6 xs A D x) {n1 n2 n3 n4 n5 : Int32} (hn1 : xs (1 : Int32).toNatClampNeg = n1) (hn2 : xs (2 : Int32).toNatClampNeg = n2) (hn3 : xs (3 : Int32).toNatClampNeg = n3) (hn4 : xs (4 : Int32).toNatClampNeg = n4) (hn5 : xs (5 : Int32).toNatClampNeg = n5) (ph0 : Nat) (pf0 : Nat → Value) (pho : Nat) (pfh : Nat → Value) (pq : Nat) (qh0 : Nat) (qf0 : Nat → Value) (qq : Nat) (h0_2 : pf0 2 = .ref pho) (h1_4 : pfh 4 = .ref pq) (h3_82 : qf0 82 = .ref qq) {H : Heap} {locs : List Loc} {ls : Array Slot} (hP : va_P D vwCl [(ph0, .inr (11, zf 6 pf0)), (pho, .inr (0, zf 18 pfh)), (pq, .inl (x 1, 102400, .inl (fun _ => 0))), (qh0, .inr (12, zf 212 qf0)), (qq, .inl (x 1, 102656, .inl (fun _ => 0)))] H) (hD : va_D A [(ph0, .inr (11, zf 6 pf0)), (pho, .inr (0, zf 18 pfh)), (pq, .inl (x 1, 102400, .inl (fun _ => 0))), (qh0, .inr (12, zf 212 qf0)), (qq, .inl (x 1, 102656, .inl (fun _ => 0)))]) (hS : va_S A s.heap H locs) (hl : lv_has ls 4 [(3, .int 0), (2, .ref qh0), (1, .ref ph0), (0, .ref b)]) : W p l e room_1 s m #[Value.ref b] below meth c H locs 13405 3699129 (lw_Z below #[Value.ref b] s) (F0 m 754 ls []) := by
  obtain ⟨hx, hb, hr, hml, hown, hts, hX, hbl, hlocks, hZ, hA, hA2, hbA⟩ := id C0
  have hK := hZ.1
  refine lv_aload_n hx hb dL_law_754 rfl (lv_at hl 2 rfl) ?_
  refine lv_aload_n hx hb dL_law_755 rfl (lv_at hl 3 rfl) ?_
  refine lv_iload_n hx hb dL_law_756 rfl (lv_at hl 0 rfl) ?_
  refine lv_iconst (v := 1) hx hb dL_law_757 (by decide) ?_
  refine lv_iadd hx hb dL_law_758 ?_
  refine lv_topi (fun y_2 ex_1 => ?_)
  obtain rfl : y_2 = 1 := ex_1.trans (by decide)
  refine z_sld hx hb hX hbl hbA hS (z_in (by decide)) hn1 dL_law_759 ?_
  refine lv_aload_n hx hb dL_law_760 rfl (lv_at hl 3 rfl) ?_
  refine lv_iload_n hx hb dL_law_761 rfl (lv_at hl 0 rfl) ?_
  refine lv_iconst (v := 2) hx hb dL_law_762 (by decide) ?_
  refine lv_iadd hx hb dL_law_763 ?_
  refine lv_topi (fun y_4 ex_3 => ?_)
  obtain rfl : y_4 = 2 := ex_3.trans (by decide)
  refine z_sld hx hb hX hbl hbA hS (z_in (by decide)) hn2 dL_law_764 ?_
  have hPc := hP.sub (ws' := [(ph0, .inr (11, zf 6 pf0)), (pho, .inr (0, zf 18 pfh)), (pq, .inl (x 1, 102400, .inl (fun _ => 0)))]) [0, 1, 2] rfl
  have hDc := hD.sub (ws' := [(ph0, .inr (11, zf 6 pf0)), (pho, .inr (0, zf 18 pfh)), (pq, .inl (x 1, 102400, .inl (fun _ => 0)))]) [0, 1, 2] (by decide) rfl
  have hFc := va_free (wc := [(ph0, .inr (11, zf 6 pf0)), (pho, .inr (0, zf 18 pfh)), (pq, .inl (x 1, 102400, .inl (fun _ => 0)))]) hD hS hA [0, 1, 2] rfl
  refine va_calli (va_runV (As := [.int n1, .int n2]) (rest := []) ⟨hx, hb, hml, hown, hts⟩ (c_octet l D x n1 n2 ph0 pf0 pho pfh pq ((fun _ => 0)) H.size h0_2 h1_4) ⟨callB_of 2 hts (zgood (zm_276 _) rfl) rfl rfl rfl (hts _ (zm_168 _)) (hts _ (zm_892 _)) ⟨by decide, by decide, by decide +kernel⟩ ⟨Nat.le_of_ble_eq_true rfl, Nat.le_of_ble_eq_true rfl⟩, hts _ (zm_277 _), hts _ (zm_278 _)⟩ ⟨fun a U g mk q => by obtain ⟨q0, q1, qP, qK, qD⟩ := q; exact ⟨q0, q1, qP, ZK.calling (u := U) zN_ok rfl qK, qD⟩, va_recv hK hPc (ci := 11) (q0 := 0) rfl rfl, fun U hU hW => ⟨rfl, by rw [hU], by rw [hU]; exact hPc, ZK.warm zN_ok hW hZ, hDc.weaken (fun _ _ _ _ => trivial)⟩⟩ rfl rfl hl.1 rfl (lv_room (Nat.le_of_ble_eq_true rfl)) dL_law_765 ⟨Nat.le_of_ble_eq_true rfl, Nat.le_of_ble_eq_true rfl⟩) hS (fun q _ h => hFc q h) hFc (fun r_5 u t H1 locs ht hvm hw_5 hB hz1 hk1 hSn => ?_)
  have hP1 : va_P D vwCl [] H1 := z_P0
  have hD1 : va_D (va_A [(ph0, .inr (11, zf 6 pf0)), (pho, .inr (0, zf 18 pfh)), (pq, .inl (x 1, 102400, .inl (fun _ => 0)))] H.size) [] := z_D0
  try dsimp only at hw_5
  obtain ⟨hPn, hDn⟩ := va_join (wr := [(qh0, .inr (12, zf 212 qf0)), (qq, .inl (x 1, 102656, .inl (fun _ => 0)))]) (w1 := []) hP hD [0, 1, 2] [3, 4] rfl rfl (by decide) (by decide) hk1 hFc hP1 hD1
  clear hPc hDc hFc hP1 hD1 hk1 hz1
  generalize H1 = H at hPn hSn ⊢
  clear hP hD hS
  have hP : va_P D vwCl [(qh0, .inr (12, zf 212 qf0)), (qq, .inl (x 1, 102656, .inl (fun _ => 0)))] H := hPn
  have hD : va_D A [(qh0, .inr (12, zf 212 qf0)), (qq, .inl (x 1, 102656, .inl (fun _ => 0)))] := hDn
  have hS := hSn
  clear hPn hDn hSn
  refine W.widen (k := 13405) (n := 3699129) (Nat.le_of_ble_eq_true rfl) (Nat.le_of_ble_eq_true rfl) ?_
  obtain rfl : r_5 = (zOct ((fun _ => 0)) n1 n2) := hw_5
  refine lv_aload_n hx hb dL_law_768 rfl (lv_at hl 1 rfl) ?_
  refine lv_aload_n hx hb dL_law_769 rfl (lv_at hl 3 rfl) ?_
  refine lv_iload_n hx hb dL_law_770 rfl (lv_at hl 0 rfl) ?_
  refine lv_iconst (v := 1) hx hb dL_law_771 (by decide) ?_
  refine lv_iadd hx hb dL_law_772 ?_
  refine lv_topi (fun y_8 ex_7 => ?_)
  obtain rfl : y_8 = 1 := ex_7.trans (by decide)
  refine z_sld hx hb hX hbl hbA hS (z_in (by decide)) hn1 dL_law_773 ?_
  refine lv_aload_n hx hb dL_law_774 rfl (lv_at hl 3 rfl) ?_
  refine lv_iload_n hx hb dL_law_775 rfl (lv_at hl 0 rfl) ?_
  refine lv_iconst (v := 2) hx hb dL_law_776 (by decide) ?_
  refine lv_iadd hx hb dL_law_777 ?_
  refine lv_topi (fun y_10 ex_9 => ?_)
  obtain rfl : y_10 = 2 := ex_9.trans (by decide)
  refine z_sld hx hb hX hbl hbA hS (z_in (by decide)) hn2 dL_law_778 ?_
  have hPc := hP.sub (ws' := [(qh0, .inr (12, zf 212 qf0)), (qq, .inl (x 1, 102656, .inl (fun _ => 0)))]) [0, 1] rfl
  have hDc := hD.sub (ws' := [(qh0, .inr (12, zf 212 qf0)), (qq, .inl (x 1, 102656, .inl (fun _ => 0)))]) [0, 1] (by decide) rfl
  have hFc := va_free (wc := [(qh0, .inr (12, zf 212 qf0)), (qq, .inl (x 1, 102656, .inl (fun _ => 0)))]) hD hS hA [0, 1] rfl
  refine va_calli (va_runV (As := [.int n1, .int n2]) (rest := [.int (zOct ((fun _ => 0)) n1 n2)]) ⟨hx, hb, hml, hown, hts⟩ (r_octet l D x n1 n2 qh0 qf0 qq H.size h3_82) ⟨callB_of 2 hts (zgood (zm_776 _) rfl) rfl rfl rfl (hts _ (zm_459 _)) (hts _ (zm_893 _)) ⟨by decide, by decide, by decide +kernel⟩ ⟨Nat.le_of_ble_eq_true rfl, Nat.le_of_ble_eq_true rfl⟩, hts _ (zm_777 _), hts _ (zm_778 _)⟩ ⟨fun a U g mk q => by obtain ⟨q0, q1, qP, qK, qD⟩ := q; exact ⟨q0, q1, qP, ZK.calling (u := U) zN_ok rfl qK, qD⟩, va_recv hK hPc (ci := 12) (q0 := 0) rfl rfl, fun U hU hW => ⟨rfl, by rw [hU], by rw [hU]; exact hPc, ZK.warm zN_ok hW hZ, hDc.weaken (fun _ _ _ _ => trivial)⟩⟩ rfl rfl hl.1 rfl (lv_room (Nat.le_of_ble_eq_true rfl)) dL_law_779 ⟨Nat.le_of_ble_eq_true rfl, Nat.le_of_ble_eq_true rfl⟩) hS (fun q _ h => hFc q h) hFc (fun r_11 u t H1 locs ht hvm hw_11 hB hz1 hk1 hSn => ?_)
  have hP1 : va_P D vwCl [] H1 := z_P0
  have hD1 : va_D (va_A [(qh0, .inr (12, zf 212 qf0)), (qq, .inl (x 1, 102656, .inl (fun _ => 0)))] H.size) [] := z_D0
  try dsimp only at hw_11
  obtain ⟨hPn, hDn⟩ := va_join (wr := []) (w1 := []) hP hD [0, 1] [] rfl rfl (by decide) (by decide) hk1 hFc hP1 hD1
  clear hPc hDc hFc hP1 hD1 hk1 hz1
  generalize H1 = H at hPn hSn ⊢
  clear hP hD hS
  have hP : va_P D vwCl [] H := hPn
  have hD : va_D A [] := hDn
  have hS := hSn
  clear hPn hDn hSn
  refine W.widen (k := 13405) (n := 3699129) (Nat.le_of_ble_eq_true rfl) (Nat.le_of_ble_eq_true rfl) ?_
  obtain rfl : r_11 = (zOct (fun _ => 0) n1 n2) := hw_11
  refine lv_icmp_eq (tgt := 843) hx hb dL_law_782 (by decide) (fun _ => ?_) (fun c9 => absurd (rfl) c9)
  exact law_tail C0 hS hl

set_option maxHeartbeats 8000000 in
set_option maxRecDepth 100000 in
/-- the law at case 23: poke -/
theorem arm_23 {p : Program} {l : Launch} {e : Env} {s : State} {m : MethodId} {below : List Frame} {meth : Method} {c : Code} {b : Nat} {xs : Nat → Int32} {A : Nat → Prop} {D : va_G} {x : Nat → ClassId} (C0 : LawC p s m meth c b 6 xs A D x) {n1 n2 n3 n4 n5 : Int32} (hn1 : xs (1 : Int32).toNatClampNeg = n1) (hn2 : xs (2 : Int32).toNatClampNeg = n2) (hn3 : xs (3 : Int32).toNatClampNeg = n3) (hn4 : xs (4 : Int32).toNatClampNeg = n4) (hn5 : xs (5 : Int32).toNatClampNeg = n5) (ph0 : Nat) (pf0 : Nat → Value) (pho : Nat) (pfh : Nat → Value) (pq : Nat) (qh0 : Nat) (qf0 : Nat → Value) (qq : Nat) (h0_2 : pf0 2 = .ref pho) (h1_4 : pfh 4 = .ref pq) (h3_82 : qf0 82 = .ref qq) {H : Heap} {locs : List Loc} {ls : Array Slot} (hP : va_P D vwCl [(ph0, .inr (11, zf 6 pf0)), (pho, .inr (0, zf 18 pfh)), (pq, .inl (x 1, 102400, .inl (fun _ => 0))), (qh0, .inr (12, zf 212 qf0)), (qq, .inl (x 1, 102656, .inl (fun _ => 0)))] H) (hD : va_D A [(ph0, .inr (11, zf 6 pf0)), (pho, .inr (0, zf 18 pfh)), (pq, .inl (x 1, 102400, .inl (fun _ => 0))), (qh0, .inr (12, zf 212 qf0)), (qq, .inl (x 1, 102656, .inl (fun _ => 0)))]) (hS : va_S A s.heap H locs) (hl : lv_has ls 4 [(3, .int 0), (2, .ref qh0), (1, .ref ph0), (0, .ref b)]) : W p l e room_1 s m #[Value.ref b] below meth c H locs 13405 3699129 (lw_Z below #[Value.ref b] s) (F0 m 787 ls []) := by
  obtain ⟨hx, hb, hr, hml, hown, hts, hX, hbl, hlocks, hZ, hA, hA2, hbA⟩ := id C0
  have hK := hZ.1
  refine lv_aload_n hx hb dL_law_787 rfl (lv_at hl 2 rfl) ?_
  refine lv_aload_n hx hb dL_law_788 rfl (lv_at hl 3 rfl) ?_
  refine lv_iload_n hx hb dL_law_789 rfl (lv_at hl 0 rfl) ?_
  refine lv_iconst (v := 1) hx hb dL_law_790 (by decide) ?_
  refine lv_iadd hx hb dL_law_791 ?_
  refine lv_topi (fun y_2 ex_1 => ?_)
  obtain rfl : y_2 = 1 := ex_1.trans (by decide)
  refine z_sld hx hb hX hbl hbA hS (z_in (by decide)) hn1 dL_law_792 ?_
  refine lv_aload_n hx hb dL_law_793 rfl (lv_at hl 3 rfl) ?_
  refine lv_iload_n hx hb dL_law_794 rfl (lv_at hl 0 rfl) ?_
  refine lv_iconst (v := 2) hx hb dL_law_795 (by decide) ?_
  refine lv_iadd hx hb dL_law_796 ?_
  refine lv_topi (fun y_4 ex_3 => ?_)
  obtain rfl : y_4 = 2 := ex_3.trans (by decide)
  refine z_sld hx hb hX hbl hbA hS (z_in (by decide)) hn2 dL_law_797 ?_
  refine lv_aload_n hx hb dL_law_798 rfl (lv_at hl 3 rfl) ?_
  refine lv_iload_n hx hb dL_law_799 rfl (lv_at hl 0 rfl) ?_
  refine lv_iconst (v := 3) hx hb dL_law_800 (by decide) ?_
  refine lv_iadd hx hb dL_law_801 ?_
  refine lv_topi (fun y_6 ex_5 => ?_)
  obtain rfl : y_6 = 3 := ex_5.trans (by decide)
  refine z_sld hx hb hX hbl hbA hS (z_in (by decide)) hn3 dL_law_802 ?_
  have hPc := hP.sub (ws' := [(ph0, .inr (11, zf 6 pf0)), (pho, .inr (0, zf 18 pfh)), (pq, .inl (x 1, 102400, .inl (fun _ => 0)))]) [0, 1, 2] rfl
  have hDc := hD.sub (ws' := [(ph0, .inr (11, zf 6 pf0)), (pho, .inr (0, zf 18 pfh)), (pq, .inl (x 1, 102400, .inl (fun _ => 0)))]) [0, 1, 2] (by decide) rfl
  have hFc := va_free (wc := [(ph0, .inr (11, zf 6 pf0)), (pho, .inr (0, zf 18 pfh)), (pq, .inl (x 1, 102400, .inl (fun _ => 0)))]) hD hS hA [0, 1, 2] rfl
  refine va_calli (va_runV (As := [.int n1, .int n2, .int n3]) (rest := []) ⟨hx, hb, hml, hown, hts⟩ (c_poke l D x n1 n2 n3 ph0 pf0 pho pfh pq H.size h0_2 h1_4) ⟨callB_of 3 hts (zgood (zm_279 _) rfl) rfl rfl rfl (hts _ (zm_168 _)) (hts _ (zm_894 _)) ⟨by decide, by decide, by decide +kernel⟩ ⟨Nat.le_of_ble_eq_true rfl, Nat.le_of_ble_eq_true rfl⟩, hts _ (zm_280 _), hts _ (zm_281 _)⟩ ⟨fun a U g mk q => by obtain ⟨q0, q1, qP, qK, qD⟩ := q; exact ⟨q0, q1, qP, ZK.calling (u := U) zN_ok rfl qK, qD⟩, va_recv hK hPc (ci := 11) (q0 := 0) rfl rfl, fun U hU hW => ⟨rfl, by rw [hU], by rw [hU]; exact hPc, ZK.warm zN_ok hW hZ, hDc.weaken (fun _ _ _ _ => trivial)⟩⟩ rfl rfl hl.1 rfl (lv_room (Nat.le_of_ble_eq_true rfl)) dL_law_803 ⟨Nat.le_of_ble_eq_true rfl, Nat.le_of_ble_eq_true rfl⟩) hS (fun q _ h => hFc q h) hFc (fun r_7 u t H1 locs ht hvm hw_7 hB hz1 hk1 hSn => ?_)
  have hP1 : va_P D vwCl [] H1 := z_P0
  have hD1 : va_D (va_A [(ph0, .inr (11, zf 6 pf0)), (pho, .inr (0, zf 18 pfh)), (pq, .inl (x 1, 102400, .inl (fun _ => 0)))] H.size) [] := z_D0
  try dsimp only at hw_7
  obtain ⟨hPn, hDn⟩ := va_join (wr := [(qh0, .inr (12, zf 212 qf0)), (qq, .inl (x 1, 102656, .inl (fun _ => 0)))]) (w1 := []) hP hD [0, 1, 2] [3, 4] rfl rfl (by decide) (by decide) hk1 hFc hP1 hD1
  clear hPc hDc hFc hP1 hD1 hk1 hz1
  generalize H1 = H at hPn hSn ⊢
  clear hP hD hS
  have hP : va_P D vwCl [(qh0, .inr (12, zf 212 qf0)), (qq, .inl (x 1, 102656, .inl (fun _ => 0)))] H := hPn
  have hD : va_D A [(qh0, .inr (12, zf 212 qf0)), (qq, .inl (x 1, 102656, .inl (fun _ => 0)))] := hDn
  have hS := hSn
  clear hPn hDn hSn
  refine W.widen (k := 13405) (n := 3699129) (Nat.le_of_ble_eq_true rfl) (Nat.le_of_ble_eq_true rfl) ?_
  obtain rfl : r_7 = (zPoke n1 n2 n3) := hw_7
  refine lv_aload_n hx hb dL_law_806 rfl (lv_at hl 1 rfl) ?_
  refine lv_aload_n hx hb dL_law_807 rfl (lv_at hl 3 rfl) ?_
  refine lv_iload_n hx hb dL_law_808 rfl (lv_at hl 0 rfl) ?_
  refine lv_iconst (v := 1) hx hb dL_law_809 (by decide) ?_
  refine lv_iadd hx hb dL_law_810 ?_
  refine lv_topi (fun y_10 ex_9 => ?_)
  obtain rfl : y_10 = 1 := ex_9.trans (by decide)
  refine z_sld hx hb hX hbl hbA hS (z_in (by decide)) hn1 dL_law_811 ?_
  refine lv_aload_n hx hb dL_law_812 rfl (lv_at hl 3 rfl) ?_
  refine lv_iload_n hx hb dL_law_813 rfl (lv_at hl 0 rfl) ?_
  refine lv_iconst (v := 2) hx hb dL_law_814 (by decide) ?_
  refine lv_iadd hx hb dL_law_815 ?_
  refine lv_topi (fun y_12 ex_11 => ?_)
  obtain rfl : y_12 = 2 := ex_11.trans (by decide)
  refine z_sld hx hb hX hbl hbA hS (z_in (by decide)) hn2 dL_law_816 ?_
  refine lv_aload_n hx hb dL_law_817 rfl (lv_at hl 3 rfl) ?_
  refine lv_iload_n hx hb dL_law_818 rfl (lv_at hl 0 rfl) ?_
  refine lv_iconst (v := 3) hx hb dL_law_819 (by decide) ?_
  refine lv_iadd hx hb dL_law_820 ?_
  refine lv_topi (fun y_14 ex_13 => ?_)
  obtain rfl : y_14 = 3 := ex_13.trans (by decide)
  refine z_sld hx hb hX hbl hbA hS (z_in (by decide)) hn3 dL_law_821 ?_
  have hPc := hP.sub (ws' := [(qh0, .inr (12, zf 212 qf0)), (qq, .inl (x 1, 102656, .inl (fun _ => 0)))]) [0, 1] rfl
  have hDc := hD.sub (ws' := [(qh0, .inr (12, zf 212 qf0)), (qq, .inl (x 1, 102656, .inl (fun _ => 0)))]) [0, 1] (by decide) rfl
  have hFc := va_free (wc := [(qh0, .inr (12, zf 212 qf0)), (qq, .inl (x 1, 102656, .inl (fun _ => 0)))]) hD hS hA [0, 1] rfl
  refine va_calli (va_runV (As := [.int n1, .int n2, .int n3]) (rest := [.int (zPoke n1 n2 n3)]) ⟨hx, hb, hml, hown, hts⟩ (r_poke l D x n1 n2 n3 qh0 qf0 qq H.size h3_82) ⟨callB_of 3 hts (zgood (zm_779 _) rfl) rfl rfl rfl (hts _ (zm_459 _)) (hts _ (zm_895 _)) ⟨by decide, by decide, by decide +kernel⟩ ⟨Nat.le_of_ble_eq_true rfl, Nat.le_of_ble_eq_true rfl⟩, hts _ (zm_780 _), hts _ (zm_781 _)⟩ ⟨fun a U g mk q => by obtain ⟨q0, q1, qP, qK, qD⟩ := q; exact ⟨q0, q1, qP, ZK.calling (u := U) zN_ok rfl qK, qD⟩, va_recv hK hPc (ci := 12) (q0 := 0) rfl rfl, fun U hU hW => ⟨rfl, by rw [hU], by rw [hU]; exact hPc, ZK.warm zN_ok hW hZ, hDc.weaken (fun _ _ _ _ => trivial)⟩⟩ rfl rfl hl.1 rfl (lv_room (Nat.le_of_ble_eq_true rfl)) dL_law_822 ⟨Nat.le_of_ble_eq_true rfl, Nat.le_of_ble_eq_true rfl⟩) hS (fun q _ h => hFc q h) hFc (fun r_15 u t H1 locs ht hvm hw_15 hB hz1 hk1 hSn => ?_)
  have hP1 : va_P D vwCl [] H1 := z_P0
  have hD1 : va_D (va_A [(qh0, .inr (12, zf 212 qf0)), (qq, .inl (x 1, 102656, .inl (fun _ => 0)))] H.size) [] := z_D0
  try dsimp only at hw_15
  obtain ⟨hPn, hDn⟩ := va_join (wr := []) (w1 := []) hP hD [0, 1] [] rfl rfl (by decide) (by decide) hk1 hFc hP1 hD1
  clear hPc hDc hFc hP1 hD1 hk1 hz1
  generalize H1 = H at hPn hSn ⊢
  clear hP hD hS
  have hP : va_P D vwCl [] H := hPn
  have hD : va_D A [] := hDn
  have hS := hSn
  clear hPn hDn hSn
  refine W.widen (k := 13405) (n := 3699129) (Nat.le_of_ble_eq_true rfl) (Nat.le_of_ble_eq_true rfl) ?_
  obtain rfl : r_15 = (zPoke n1 n2 n3) := hw_15
  refine lv_icmp_eq (tgt := 843) hx hb dL_law_825 (by decide) (fun _ => ?_) (fun c9 => absurd (rfl) c9)
  exact law_tail C0 hS hl

set_option maxHeartbeats 8000000 in
set_option maxRecDepth 100000 in
/-- the law at case 24: verify -/
theorem arm_24 {p : Program} {l : Launch} {e : Env} {s : State} {m : MethodId} {below : List Frame} {meth : Method} {c : Code} {b : Nat} {xs : Nat → Int32} {A : Nat → Prop} {D : va_G} {x : Nat → ClassId} (C0 : LawC p s m meth c b 6 xs A D x) {n1 n2 n3 n4 n5 : Int32} (hn1 : xs (1 : Int32).toNatClampNeg = n1) (hn2 : xs (2 : Int32).toNatClampNeg = n2) (hn3 : xs (3 : Int32).toNatClampNeg = n3) (hn4 : xs (4 : Int32).toNatClampNeg = n4) (hn5 : xs (5 : Int32).toNatClampNeg = n5) (ph0 : Nat) (pf0 : Nat → Value) (pho : Nat) (pfh : Nat → Value) (qh0 : Nat) (qf0 : Nat → Value) (h0_2 : pf0 2 = .ref pho) (h1_12 : pfh 12 = .int 0) (h1_6 : pfh 6 = .int 0) (h2_83 : qf0 83 = .int 0) (h2_196 : qf0 196 = .int 0) {H : Heap} {locs : List Loc} {ls : Array Slot} (hP : va_P D vwCl [(ph0, .inr (11, zf 6 pf0)), (pho, .inr (0, zf 18 pfh)), (qh0, .inr (12, zf 212 qf0))] H) (hD : va_D A [(ph0, .inr (11, zf 6 pf0)), (pho, .inr (0, zf 18 pfh)), (qh0, .inr (12, zf 212 qf0))]) (hS : va_S A s.heap H locs) (hl : lv_has ls 4 [(3, .int 0), (2, .ref qh0), (1, .ref ph0), (0, .ref b)]) : W p l e room_1 s m #[Value.ref b] below meth c H locs 13405 3699129 (lw_Z below #[Value.ref b] s) (F0 m 830 ls []) := by
  obtain ⟨hx, hb, hr, hml, hown, hts, hX, hbl, hlocks, hZ, hA, hA2, hbA⟩ := id C0
  have hK := hZ.1
  refine lv_aload_n hx hb dL_law_830 rfl (lv_at hl 2 rfl) ?_
  have hPc := hP.sub (ws' := [(ph0, .inr (11, zf 6 pf0)), (pho, .inr (0, zf 18 pfh))]) [0, 1] rfl
  have hDc := hD.sub (ws' := [(ph0, .inr (11, zf 6 pf0)), (pho, .inr (0, zf 18 pfh))]) [0, 1] (by decide) rfl
  have hFc := va_free (wc := [(ph0, .inr (11, zf 6 pf0)), (pho, .inr (0, zf 18 pfh))]) hD hS hA [0, 1] rfl
  refine va_calli (va_runV (As := []) (rest := []) ⟨hx, hb, hml, hown, hts⟩ (c_verify l D x ph0 pf0 pho pfh H.size h0_2 h1_12 h1_6) ⟨callB_of 0 hts (zgood (zm_282 _) rfl) rfl rfl rfl (hts _ (zm_168 _)) (hts _ (zm_896 _)) ⟨by decide, by decide, by decide +kernel⟩ ⟨Nat.le_of_ble_eq_true rfl, Nat.le_of_ble_eq_true rfl⟩, hts _ (zm_283 _), hts _ (zm_284 _)⟩ ⟨fun a U g mk q => by obtain ⟨q0, q1, qP, qK, qD⟩ := q; exact ⟨q0, q1, qP, ZK.calling (u := U) zN_ok rfl qK, qD⟩, va_recv hK hPc (ci := 11) (q0 := 0) rfl rfl, fun U hU hW => ⟨rfl, by rw [hU], by rw [hU]; exact hPc, ZK.warm zN_ok hW hZ, hDc.weaken (fun _ _ _ _ => trivial)⟩⟩ rfl rfl hl.1 rfl (lv_room (Nat.le_of_ble_eq_true rfl)) dL_law_831 ⟨Nat.le_of_ble_eq_true rfl, Nat.le_of_ble_eq_true rfl⟩) hS (fun q _ h => hFc q h) hFc (fun r_1 u t H1 locs ht hvm hw_1 hB hz1 hk1 hSn => ?_)
  have hP1 : va_P D vwCl [] H1 := z_P0
  have hD1 : va_D (va_A [(ph0, .inr (11, zf 6 pf0)), (pho, .inr (0, zf 18 pfh))] H.size) [] := z_D0
  try dsimp only at hw_1
  obtain ⟨hPn, hDn⟩ := va_join (wr := [(qh0, .inr (12, zf 212 qf0))]) (w1 := []) hP hD [0, 1] [2] rfl rfl (by decide) (by decide) hk1 hFc hP1 hD1
  clear hPc hDc hFc hP1 hD1 hk1 hz1
  generalize H1 = H at hPn hSn ⊢
  clear hP hD hS
  have hP : va_P D vwCl [(qh0, .inr (12, zf 212 qf0))] H := hPn
  have hD : va_D A [(qh0, .inr (12, zf 212 qf0))] := hDn
  have hS := hSn
  clear hPn hDn hSn
  refine W.widen (k := 13405) (n := 3699129) (Nat.le_of_ble_eq_true rfl) (Nat.le_of_ble_eq_true rfl) ?_
  obtain rfl : r_1 = (-1) := hw_1
  refine lv_aload_n hx hb dL_law_834 rfl (lv_at hl 1 rfl) ?_
  have hPc := hP.sub (ws' := [(qh0, .inr (12, zf 212 qf0))]) [0] rfl
  have hDc := hD.sub (ws' := [(qh0, .inr (12, zf 212 qf0))]) [0] (by decide) rfl
  have hFc := va_free (wc := [(qh0, .inr (12, zf 212 qf0))]) hD hS hA [0] rfl
  refine va_calli (va_runV (As := []) (rest := [.int (-1)]) ⟨hx, hb, hml, hown, hts⟩ (r_verify l D x qh0 qf0 H.size h2_83 h2_196) ⟨callB_of 0 hts (zgood (zm_782 _) rfl) rfl rfl rfl (hts _ (zm_459 _)) (hts _ (zm_897 _)) ⟨by decide, by decide, by decide +kernel⟩ ⟨Nat.le_of_ble_eq_true rfl, Nat.le_of_ble_eq_true rfl⟩, hts _ (zm_783 _), hts _ (zm_784 _)⟩ ⟨fun a U g mk q => by obtain ⟨q0, q1, qP, qK, qD⟩ := q; exact ⟨q0, q1, qP, ZK.calling (u := U) zN_ok rfl qK, qD⟩, va_recv hK hPc (ci := 12) (q0 := 0) rfl rfl, fun U hU hW => ⟨rfl, by rw [hU], by rw [hU]; exact hPc, ZK.warm zN_ok hW hZ, hDc.weaken (fun _ _ _ _ => trivial)⟩⟩ rfl rfl hl.1 rfl (lv_room (Nat.le_of_ble_eq_true rfl)) dL_law_835 ⟨Nat.le_of_ble_eq_true rfl, Nat.le_of_ble_eq_true rfl⟩) hS (fun q _ h => hFc q h) hFc (fun r_3 u t H1 locs ht hvm hw_3 hB hz1 hk1 hSn => ?_)
  have hP1 : va_P D vwCl [] H1 := z_P0
  have hD1 : va_D (va_A [(qh0, .inr (12, zf 212 qf0))] H.size) [] := z_D0
  try dsimp only at hw_3
  obtain ⟨hPn, hDn⟩ := va_join (wr := []) (w1 := []) hP hD [0] [] rfl rfl (by decide) (by decide) hk1 hFc hP1 hD1
  clear hPc hDc hFc hP1 hD1 hk1 hz1
  generalize H1 = H at hPn hSn ⊢
  clear hP hD hS
  have hP : va_P D vwCl [] H := hPn
  have hD : va_D A [] := hDn
  have hS := hSn
  clear hPn hDn hSn
  refine W.widen (k := 13405) (n := 3699129) (Nat.le_of_ble_eq_true rfl) (Nat.le_of_ble_eq_true rfl) ?_
  obtain rfl : r_3 = (-1) := hw_3
  refine lv_icmp_eq (tgt := 843) hx hb dL_law_838 (by decide) (fun _ => ?_) (fun c9 => absurd (by decide) c9)
  exact law_tail C0 hS hl
