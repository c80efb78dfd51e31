theorem dX12_init_681 : decode cX12_init 681 = .ok (.aload_n 0, 1) := by decide +kernel
theorem dX12_init_682 : decode cX12_init 682 = .ok (.bipush 25, 2) := by decide +kernel
theorem dX12_init_684 : decode cX12_init 684 = .ok (.newarray .int, 2) := by decide +kernel
theorem dX12_init_686 : decode cX12_init 686 = .ok (.putfield 263, 3) := by decide +kernel
theorem dX12_init_689 : decode cX12_init 689 = .ok (.aload_n 0, 1) := by decide +kernel
theorem dX12_init_690 : decode cX12_init 690 = .ok (.sipush 6250, 3) := by decide +kernel
theorem dX12_init_693 : decode cX12_init 693 = .ok (.newarray .byte, 2) := by decide +kernel
theorem dX12_init_695 : decode cX12_init 695 = .ok (.putfield 266, 3) := by decide +kernel
theorem dX12_init_698 : decode cX12_init 698 = .ok (.aload_n 0, 1) := by decide +kernel
theorem dX12_init_699 : decode cX12_init 699 = .ok (.bipush 8, 2) := by decide +kernel
theorem dX12_init_701 : decode cX12_init 701 = .ok (.newarray .int, 2) := by decide +kernel
theorem dX12_init_703 : decode cX12_init 703 = .ok (.putfield 269, 3) := by decide +kernel
theorem dX12_init_706 : decode cX12_init 706 = .ok (.aload_n 0, 1) := by decide +kernel
theorem dX12_init_707 : decode cX12_init 707 = .ok (.bipush 8, 2) := by decide +kernel
theorem dX12_init_709 : decode cX12_init 709 = .ok (.newarray .boolean, 2) := by decide +kernel
theorem dX12_init_711 : decode cX12_init 711 = .ok (.putfield 272, 3) := by decide +kernel
theorem dX12_init_714 : decode cX12_init 714 = .ok (.aload_n 0, 1) := by decide +kernel
theorem dX12_init_715 : decode cX12_init 715 = .ok (.bipush 8, 2) := by decide +kernel
theorem dX12_init_717 : decode cX12_init 717 = .ok (.newarray .int, 2) := by decide +kernel
theorem dX12_init_719 : decode cX12_init 719 = .ok (.putfield 275, 3) := by decide +kernel
theorem dX12_init_722 : decode cX12_init 722 = .ok (.aload_n 0, 1) := by decide +kernel
theorem dX12_init_723 : decode cX12_init 723 = .ok (.bipush 8, 2) := by decide +kernel
theorem dX12_init_725 : decode cX12_init 725 = .ok (.newarray .long, 2) := by decide +kernel
theorem dX12_init_727 : decode cX12_init 727 = .ok (.putfield 278, 3) := by decide +kernel
theorem dX12_init_730 : decode cX12_init 730 = .ok (.aload_n 0, 1) := by decide +kernel
theorem dX12_init_731 : decode cX12_init 731 = .ok (.bipush 8, 2) := by decide +kernel
theorem dX12_init_733 : decode cX12_init 733 = .ok (.newarray .boolean, 2) := by decide +kernel
theorem dX12_init_735 : decode cX12_init 735 = .ok (.putfield 281, 3) := by decide +kernel
theorem dX12_init_738 : decode cX12_init 738 = .ok (.aload_n 0, 1) := by decide +kernel
theorem dX12_init_739 : decode cX12_init 739 = .ok (.bipush 8, 2) := by decide +kernel
theorem dX12_init_741 : decode cX12_init 741 = .ok (.newarray .int, 2) := by decide +kernel
theorem dX12_init_743 : decode cX12_init 743 = .ok (.putfield 284, 3) := by decide +kernel
theorem dX12_init_746 : decode cX12_init 746 = .ok (.aload_n 0, 1) := by decide +kernel
theorem dX12_init_747 : decode cX12_init 747 = .ok (.bipush 8, 2) := by decide +kernel
theorem dX12_init_749 : decode cX12_init 749 = .ok (.newarray .int, 2) := by decide +kernel
theorem dX12_init_751 : decode cX12_init 751 = .ok (.putfield 287, 3) := by decide +kernel
theorem dX12_init_754 : decode cX12_init 754 = .ok (.aload_n 0, 1) := by decide +kernel
theorem dX12_init_755 : decode cX12_init 755 = .ok (.bipush 120, 2) := by decide +kernel
theorem dX12_init_757 : decode cX12_init 757 = .ok (.newarray .int, 2) := by decide +kernel
theorem dX12_init_759 : decode cX12_init 759 = .ok (.putfield 290, 3) := by decide +kernel
theorem dX12_init_762 : decode cX12_init 762 = .ok (.aload_n 0, 1) := by decide +kernel
theorem dX12_init_763 : decode cX12_init 763 = .ok (.sipush 30240, 3) := by decide +kernel
theorem dX12_init_766 : decode cX12_init 766 = .ok (.newarray .byte, 2) := by decide +kernel
theorem dX12_init_768 : decode cX12_init 768 = .ok (.putfield 293, 3) := by decide +kernel
theorem dX12_init_771 : decode cX12_init 771 = .ok (.aload_n 0, 1) := by decide +kernel
theorem dX12_init_772 : decode cX12_init 772 = .ok (.bipush 8, 2) := by decide +kernel
theorem dX12_init_774 : decode cX12_init 774 = .ok (.newarray .int, 2) := by decide +kernel
theorem dX12_init_776 : decode cX12_init 776 = .ok (.putfield 296, 3) := by decide +kernel
theorem dX12_init_779 : decode cX12_init 779 = .ok (.aload_n 0, 1) := by decide +kernel
theorem dX12_init_780 : decode cX12_init 780 = .ok (.bipush 8, 2) := by decide +kernel
theorem dX12_init_782 : decode cX12_init 782 = .ok (.newarray .int, 2) := by decide +kernel
theorem dX12_init_784 : decode cX12_init 784 = .ok (.putfield 299, 3) := by decide +kernel
theorem dX12_init_787 : decode cX12_init 787 = .ok (.aload_n 0, 1) := by decide +kernel
theorem dX12_init_788 : decode cX12_init 788 = .ok (.sipush 186, 3) := by decide +kernel
theorem dX12_init_791 : decode cX12_init 791 = .ok (.newarray .int, 2) := by decide +kernel
theorem dX12_init_793 : decode cX12_init 793 = .ok (.putfield 302, 3) := by decide +kernel
theorem dX12_init_796 : decode cX12_init 796 = .ok (.aload_n 0, 1) := by decide +kernel
theorem dX12_init_797 : decode cX12_init 797 = .ok (.sipush 186, 3) := by decide +kernel
theorem dX12_init_800 : decode cX12_init 800 = .ok (.newarray .int, 2) := by decide +kernel
theorem dX12_init_802 : decode cX12_init 802 = .ok (.putfield 305, 3) := by decide +kernel
theorem dX12_init_805 : decode cX12_init 805 = .ok (.aload_n 0, 1) := by decide +kernel
theorem dX12_init_806 : decode cX12_init 806 = .ok (.sipush 186, 3) := by decide +kernel
theorem dX12_init_809 : decode cX12_init 809 = .ok (.newarray .int, 2) := by decide +kernel
theorem dX12_init_811 : decode cX12_init 811 = .ok (.putfield 308, 3) := by decide +kernel
theorem dX12_init_814 : decode cX12_init 814 = .ok (.aload_n 0, 1) := by decide +kernel
theorem dX12_init_815 : decode cX12_init 815 = .ok (.sipush 186, 3) := by decide +kernel
theorem dX12_init_818 : decode cX12_init 818 = .ok (.newarray .int, 2) := by decide +kernel
theorem dX12_init_820 : decode cX12_init 820 = .ok (.putfield 311, 3) := by decide +kernel
theorem dX12_init_823 : decode cX12_init 823 = .ok (.aload_n 0, 1) := by decide +kernel
theorem dX12_init_824 : decode cX12_init 824 = .ok (.sipush 186, 3) := by decide +kernel
theorem dX12_init_827 : decode cX12_init 827 = .ok (.newarray .int, 2) := by decide +kernel
theorem dX12_init_829 : decode cX12_init 829 = .ok (.putfield 314, 3) := by decide +kernel
theorem dX12_init_832 : decode cX12_init 832 = .ok (.aload_n 0, 1) := by decide +kernel
theorem dX12_init_833 : decode cX12_init 833 = .ok (.sipush 186, 3) := by decide +kernel
theorem dX12_init_836 : decode cX12_init 836 = .ok (.newarray .int, 2) := by decide +kernel
theorem dX12_init_838 : decode cX12_init 838 = .ok (.putfield 317, 3) := by decide +kernel
theorem dX12_init_841 : decode cX12_init 841 = .ok (.aload_n 0, 1) := by decide +kernel
theorem dX12_init_842 : decode cX12_init 842 = .ok (.sipush 186, 3) := by decide +kernel
theorem dX12_init_845 : decode cX12_init 845 = .ok (.newarray .int, 2) := by decide +kernel
theorem dX12_init_847 : decode cX12_init 847 = .ok (.putfield 320, 3) := by decide +kernel
theorem dX12_init_850 : decode cX12_init 850 = .ok (.aload_n 0, 1) := by decide +kernel
theorem dX12_init_851 : decode cX12_init 851 = .ok (.sipush 186, 3) := by decide +kernel
theorem dX12_init_854 : decode cX12_init 854 = .ok (.newarray .int, 2) := by decide +kernel
theorem dX12_init_856 : decode cX12_init 856 = .ok (.putfield 323, 3) := by decide +kernel
theorem dX12_init_859 : decode cX12_init 859 = .ok (.aload_n 0, 1) := by decide +kernel
theorem dX12_init_860 : decode cX12_init 860 = .ok (.sipush 186, 3) := by decide +kernel
theorem dX12_init_863 : decode cX12_init 863 = .ok (.newarray .int, 2) := by decide +kernel
theorem dX12_init_865 : decode cX12_init 865 = .ok (.putfield 326, 3) := by decide +kernel
theorem dX12_init_868 : decode cX12_init 868 = .ok (.aload_n 0, 1) := by decide +kernel
theorem dX12_init_869 : decode cX12_init 869 = .ok (.sipush 186, 3) := by decide +kernel
theorem dX12_init_872 : decode cX12_init 872 = .ok (.newarray .int, 2) := by decide +kernel
theorem dX12_init_874 : decode cX12_init 874 = .ok (.putfield 329, 3) := by decide +kernel
theorem dX12_init_877 : decode cX12_init 877 = .ok (.aload_n 0, 1) := by decide +kernel
theorem dX12_init_878 : decode cX12_init 878 = .ok (.sipush 186, 3) := by decide +kernel
theorem dX12_init_881 : decode cX12_init 881 = .ok (.newarray .int, 2) := by decide +kernel
theorem dX12_init_883 : decode cX12_init 883 = .ok (.putfield 332, 3) := by decide +kernel
theorem dX12_init_886 : decode cX12_init 886 = .ok (.aload_n 0, 1) := by decide +kernel
theorem dX12_init_887 : decode cX12_init 887 = .ok (.sipush 186, 3) := by decide +kernel
theorem dX12_init_890 : decode cX12_init 890 = .ok (.newarray .int, 2) := by decide +kernel
theorem dX12_init_892 : decode cX12_init 892 = .ok (.putfield 335, 3) := by decide +kernel
theorem dX12_init_895 : decode cX12_init 895 = .ok (.aload_n 0, 1) := by decide +kernel
theorem dX12_init_896 : decode cX12_init 896 = .ok (.sipush 186, 3) := by decide +kernel
theorem dX12_init_899 : decode cX12_init 899 = .ok (.newarray .int, 2) := by decide +kernel
theorem dX12_init_901 : decode cX12_init 901 = .ok (.putfield 338, 3) := by decide +kernel
theorem dX12_init_904 : decode cX12_init 904 = .ok (.aload_n 0, 1) := by decide +kernel
theorem dX12_init_905 : decode cX12_init 905 = .ok (.sipush 186, 3) := by decide +kernel
theorem dX12_init_908 : decode cX12_init 908 = .ok (.newarray .int, 2) := by decide +kernel
theorem dX12_init_910 : decode cX12_init 910 = .ok (.putfield 341, 3) := by decide +kernel
theorem dX12_init_913 : decode cX12_init 913 = .ok (.aload_n 0, 1) := by decide +kernel
theorem dX12_init_914 : decode cX12_init 914 = .ok (.sipush 186, 3) := by decide +kernel
theorem dX12_init_917 : decode cX12_init 917 = .ok (.newarray .int, 2) := by decide +kernel
theorem dX12_init_919 : decode cX12_init 919 = .ok (.putfield 344, 3) := by decide +kernel
theorem dX12_init_922 : decode cX12_init 922 = .ok (.aload_n 0, 1) := by decide +kernel
theorem dX12_init_923 : decode cX12_init 923 = .ok (.sipush 186, 3) := by decide +kernel
theorem dX12_init_926 : decode cX12_init 926 = .ok (.newarray .boolean, 2) := by decide +kernel
theorem dX12_init_928 : decode cX12_init 928 = .ok (.putfield 347, 3) := by decide +kernel
theorem dX12_init_931 : decode cX12_init 931 = .ok (.aload_n 0, 1) := by decide +kernel
theorem dX12_init_932 : decode cX12_init 932 = .ok (.sipush 186, 3) := by decide +kernel
theorem dX12_init_935 : decode cX12_init 935 = .ok (.newarray .boolean, 2) := by decide +kernel
theorem dX12_init_937 : decode cX12_init 937 = .ok (.putfield 350, 3) := by decide +kernel
theorem dX12_init_940 : decode cX12_init 940 = .ok (.aload_n 0, 1) := by decide +kernel
theorem dX12_init_941 : decode cX12_init 941 = .ok (.sipush 186, 3) := by decide +kernel
theorem dX12_init_944 : decode cX12_init 944 = .ok (.newarray .int, 2) := by decide +kernel
theorem dX12_init_946 : decode cX12_init 946 = .ok (.putfield 353, 3) := by decide +kernel
theorem dX12_init_949 : decode cX12_init 949 = .ok (.aload_n 0, 1) := by decide +kernel
theorem dX12_init_950 : decode cX12_init 950 = .ok (.ldc_w 356, 3) := by decide +kernel
theorem dX12_init_953 : decode cX12_init 953 = .ok (.newarray .byte, 2) := by decide +kernel
theorem dX12_init_955 : decode cX12_init 955 = .ok (.putfield 357, 3) := by decide +kernel
theorem dX12_init_958 : decode cX12_init 958 = .ok (.aload_n 0, 1) := by decide +kernel
theorem dX12_init_959 : decode cX12_init 959 = .ok (.bipush 8, 2) := by decide +kernel
theorem dX12_init_961 : decode cX12_init 961 = .ok (.newarray .int, 2) := by decide +kernel
theorem dX12_init_963 : decode cX12_init 963 = .ok (.putfield 360, 3) := by decide +kernel
theorem dX12_init_966 : decode cX12_init 966 = .ok (.aload_n 0, 1) := by decide +kernel
theorem dX12_init_967 : decode cX12_init 967 = .ok (.sipush 240, 3) := by decide +kernel
theorem dX12_init_970 : decode cX12_init 970 = .ok (.newarray .int, 2) := by decide +kernel
theorem dX12_init_972 : decode cX12_init 972 = .ok (.putfield 363, 3) := by decide +kernel
theorem dX12_init_975 : decode cX12_init 975 = .ok (.aload_n 0, 1) := by decide +kernel
theorem dX12_init_976 : decode cX12_init 976 = .ok (.sipush 240, 3) := by decide +kernel
theorem dX12_init_979 : decode cX12_init 979 = .ok (.newarray .long, 2) := by decide +kernel
theorem dX12_init_981 : decode cX12_init 981 = .ok (.putfield 366, 3) := by decide +kernel
theorem dX12_init_984 : decode cX12_init 984 = .ok (.aload_n 0, 1) := by decide +kernel
theorem dX12_init_985 : decode cX12_init 985 = .ok (.sipush 240, 3) := by decide +kernel
theorem dX12_init_988 : decode cX12_init 988 = .ok (.newarray .int, 2) := by decide +kernel
theorem dX12_init_990 : decode cX12_init 990 = .ok (.putfield 369, 3) := by decide +kernel
theorem dX12_init_993 : decode cX12_init 993 = .ok (.aload_n 0, 1) := by decide +kernel
theorem dX12_init_994 : decode cX12_init 994 = .ok (.sipush 240, 3) := by decide +kernel
theorem dX12_init_997 : decode cX12_init 997 = .ok (.newarray .long, 2) := by decide +kernel
theorem dX12_init_999 : decode cX12_init 999 = .ok (.putfield 372, 3) := by decide +kernel
theorem dX12_init_1002 : decode cX12_init 1002 = .ok (.aload_n 0, 1) := by decide +kernel
theorem dX12_init_1003 : decode cX12_init 1003 = .ok (.sipush 240, 3) := by decide +kernel
theorem dX12_init_1006 : decode cX12_init 1006 = .ok (.newarray .int, 2) := by decide +kernel
theorem dX12_init_1008 : decode cX12_init 1008 = .ok (.putfield 375, 3) := by decide +kernel
theorem dX12_init_1011 : decode cX12_init 1011 = .ok (.aload_n 0, 1) := by decide +kernel
theorem dX12_init_1012 : decode cX12_init 1012 = .ok (.sipush 240, 3) := by decide +kernel
theorem dX12_init_1015 : decode cX12_init 1015 = .ok (.newarray .long, 2) := by decide +kernel
theorem dX12_init_1017 : decode cX12_init 1017 = .ok (.putfield 378, 3) := by decide +kernel
theorem dX12_init_1020 : decode cX12_init 1020 = .ok (.aload_n 0, 1) := by decide +kernel
theorem dX12_init_1021 : decode cX12_init 1021 = .ok (.sipush 240, 3) := by decide +kernel
theorem dX12_init_1024 : decode cX12_init 1024 = .ok (.newarray .int, 2) := by decide +kernel
theorem dX12_init_1026 : decode cX12_init 1026 = .ok (.putfield 381, 3) := by decide +kernel
set_option maxHeartbeats 8000000 in
set_option maxRecDepth 100000 in
/-- a piece of MumpsHouseModel() -/
theorem sg_8 {p : Program} {l : Launch} {e : Env} {R : Room} {s : State} {m : MethodId} {args : Array Value} {below : List Frame} {meth : Method} {c : Code} {Q : State → Prop} {A : Nat → Prop} {D : va_G} {x : Nat → ClassId} {h0 : Nat} (hx : p.tables.exec = Jvm.exec) (hb : c.code = cX12_init) (hts : ∀ w ∈ (.code yX12_init cX12_init 2 none :: zW : List Cond), w.before args s = true) (hown : s.vm.findClass RX12 = some m.cls) (hin : meth.name = "<init>") (hZ : zK x D s) (hA : ∀ q, s.heap.size ≤ q → A q) (hc : 90 ≤ R.cells) (hsl : 1893901 ≤ R.slots) {rest : va_W} {f : Nat → Value} {H : Heap} {locs : List Loc} {ls : Array Slot} (hP : va_P D vwCl ((h0, .inr (12, zf 212 f)) :: rest) H) (hD : va_D A ((h0, .inr (12, zf 212 f)) :: rest)) (hS : va_S A s.heap H locs) (hl : lv_has ls 2 [(0, .ref h0)])
    (kk : ∀ (f' : Nat → Value) (q_1 q_5 q_9 q_13 q_17 q_21 q_25 q_29 q_33 q_37 : Nat) (H : Heap) (locs : List Loc), f' 114 = .ref q_1 → f' 115 = .ref q_5 → f' 116 = .ref q_9 → f' 117 = .ref q_13 → f' 118 = .ref q_17 → f' 119 = .ref q_21 → f' 120 = .ref q_25 → f' 121 = .ref q_29 → f' 122 = .ref q_33 → f' 123 = .ref q_37 → (∀ j, (∀ k ∈ [114, 115, 116, 117, 118, 119, 120, 121, 122, 123], j ≠ k) → f' j = f j) → va_P D vwCl ((h0, .inr (12, zf 212 f')) :: (rest ++ [(q_1, .inl (x 0, 25, .inl (fun _ => 0))), (q_5, .inl (x 1, 6250, .inl (fun _ => 0))), (q_9, .inl (x 0, 8, .inl (fun _ => 0))), (q_13, .inl (x 3, 8, .inl (fun _ => 0))), (q_17, .inl (x 0, 8, .inl (fun _ => 0))), (q_21, .inl (x 2, 8, .inr (.inl (fun _ => 0)))), (q_25, .inl (x 3, 8, .inl (fun _ => 0))), (q_29, .inl (x 0, 8, .inl (fun _ => 0))), (q_33, .inl (x 0, 8, .inl (fun _ => 0))), (q_37, .inl (x 0, 120, .inl (fun _ => 0)))])) H → va_D A ((h0, .inr (12, zf 212 f')) :: (rest ++ [(q_1, .inl (x 0, 25, .inl (fun _ => 0))), (q_5, .inl (x 1, 6250, .inl (fun _ => 0))), (q_9, .inl (x 0, 8, .inl (fun _ => 0))), (q_13, .inl (x 3, 8, .inl (fun _ => 0))), (q_17, .inl (x 0, 8, .inl (fun _ => 0))), (q_21, .inl (x 2, 8, .inr (.inl (fun _ => 0)))), (q_25, .inl (x 3, 8, .inl (fun _ => 0))), (q_29, .inl (x 0, 8, .inl (fun _ => 0))), (q_33, .inl (x 0, 8, .inl (fun _ => 0))), (q_37, .inl (x 0, 120, .inl (fun _ => 0)))])) → va_S A s.heap H locs → lv_has ls 2 [(0, .ref h0)] → W p l e R s m args below meth c H locs 90 1893901 Q (F0 m 762 ls [])) :
    W p l e R s m args below meth c H locs 80 1887450 Q (F0 m 681 ls []) := by
  have hK := hZ.1
  refine lv_aload_n hx hb dX12_init_681 rfl (lv_at hl 0 rfl) ?_
  refine lv_bipush (v := 25) hx hb dX12_init_682 (by decide) ?_
  refine z_newa (atype := .int) (ty := .int) (a0 := (25, .inl (fun _ => 0))) hx hb (hts _ (zm_2 _)) rfl hK 0 rfl hP hD hS hA (fun cA => rfl) (by decide) (by decide) (by decide) (Nat.le_trans (Nat.le_of_ble_eq_true rfl) hc) (Nat.le_trans (Nat.le_of_ble_eq_true rfl) hsl) dX12_init_684 (fun q_1 H hP hD hS => ?_)
  rw [List.cons_append] at hP hD
  refine W.widen (k := 81) (n := 1887475) (Nat.le_of_ble_eq_true rfl) (Nat.le_of_ble_eq_true rfl) ?_
  refine y_putF (T := TX12) (N := 212) (ci := 12) hx hb hts (zi_12 _) hown hK hP hD hS 0 rfl rfl 114 (by decide) tX12_114 uX12_114 (hts _ (zm_552 _)) rfl hin rfl rfl rfl dX12_init_686 (fun H locs f_2 ek_3 ok_4 hP hD hS => ?_)
  rw [List.set_cons_zero] at hP hD
  refine lv_aload_n hx hb dX12_init_689 rfl (lv_at hl 0 rfl) ?_
  refine lv_sipush (v := 6250) hx hb dX12_init_690 (by decide) ?_
  refine z_newa (atype := .byte) (ty := .byte) (a0 := (6250, .inl (fun _ => 0))) hx hb (hts _ (zm_3 _)) rfl hK 1 rfl hP hD hS hA (fun cA => rfl) (by decide) (by decide) (by decide) (Nat.le_trans (Nat.le_of_ble_eq_true rfl) hc) (Nat.le_trans (Nat.le_of_ble_eq_true rfl) hsl) dX12_init_693 (fun q_5 H hP hD hS => ?_)
  rw [List.cons_append] at hP hD
  refine W.widen (k := 82) (n := 1893725) (Nat.le_of_ble_eq_true rfl) (Nat.le_of_ble_eq_true rfl) ?_
  refine y_putF (T := TX12) (N := 212) (ci := 12) hx hb hts (zi_12 _) hown hK hP hD hS 0 rfl rfl 115 (by decide) tX12_115 uX12_115 (hts _ (zm_553 _)) rfl hin rfl rfl rfl dX12_init_695 (fun H locs f_6 ek_7 ok_8 hP hD hS => ?_)
  rw [List.set_cons_zero] at hP hD
  refine lv_aload_n hx hb dX12_init_698 rfl (lv_at hl 0 rfl) ?_
  refine lv_bipush (v := 8) hx hb dX12_init_699 (by decide) ?_
  refine z_newa (atype := .int) (ty := .int) (a0 := (8, .inl (fun _ => 0))) hx hb (hts _ (zm_2 _)) rfl hK 0 rfl hP hD hS hA (fun cA => rfl) (by decide) (by decide) (by decide) (Nat.le_trans (Nat.le_of_ble_eq_true rfl) hc) (Nat.le_trans (Nat.le_of_ble_eq_true rfl) hsl) dX12_init_701 (fun q_9 H hP hD hS => ?_)
  rw [List.cons_append] at hP hD
  refine W.widen (k := 83) (n := 1893733) (Nat.le_of_ble_eq_true rfl) (Nat.le_of_ble_eq_true rfl) ?_
  refine y_putF (T := TX12) (N := 212) (ci := 12) hx hb hts (zi_12 _) hown hK hP hD hS 0 rfl rfl 116 (by decide) tX12_116 uX12_116 (hts _ (zm_554 _)) rfl hin rfl rfl rfl dX12_init_703 (fun H locs f_10 ek_11 ok_12 hP hD hS => ?_)
  rw [List.set_cons_zero] at hP hD
  refine lv_aload_n hx hb dX12_init_706 rfl (lv_at hl 0 rfl) ?_
  refine lv_bipush (v := 8) hx hb dX12_init_707 (by decide) ?_
  refine z_newa (atype := .boolean) (ty := .boolean) (a0 := (8, .inl (fun _ => 0))) hx hb (hts _ (zm_5 _)) rfl hK 3 rfl hP hD hS hA (fun cA => rfl) (by decide) (by decide) (by decide) (Nat.le_trans (Nat.le_of_ble_eq_true rfl) hc) (Nat.le_trans (Nat.le_of_ble_eq_true rfl) hsl) dX12_init_709 (fun q_13 H hP hD hS => ?_)
  rw [List.cons_append] at hP hD
  refine W.widen (k := 84) (n := 1893741) (Nat.le_of_ble_eq_true rfl) (Nat.le_of_ble_eq_true rfl) ?_
  refine y_putF (T := TX12) (N := 212) (ci := 12) hx hb hts (zi_12 _) hown hK hP hD hS 0 rfl rfl 117 (by decide) tX12_117 uX12_117 (hts _ (zm_555 _)) rfl hin rfl rfl rfl dX12_init_711 (fun H locs f_14 ek_15 ok_16 hP hD hS => ?_)
  rw [List.set_cons_zero] at hP hD
  refine lv_aload_n hx hb dX12_init_714 rfl (lv_at hl 0 rfl) ?_
  refine lv_bipush (v := 8) hx hb dX12_init_715 (by decide) ?_
  refine z_newa (atype := .int) (ty := .int) (a0 := (8, .inl (fun _ => 0))) hx hb (hts _ (zm_2 _)) rfl hK 0 rfl hP hD hS hA (fun cA => rfl) (by decide) (by decide) (by decide) (Nat.le_trans (Nat.le_of_ble_eq_true rfl) hc) (Nat.le_trans (Nat.le_of_ble_eq_true rfl) hsl) dX12_init_717 (fun q_17 H hP hD hS => ?_)
  rw [List.cons_append] at hP hD
  refine W.widen (k := 85) (n := 1893749) (Nat.le_of_ble_eq_true rfl) (Nat.le_of_ble_eq_true rfl) ?_
  refine y_putF (T := TX12) (N := 212) (ci := 12) hx hb hts (zi_12 _) hown hK hP hD hS 0 rfl rfl 118 (by decide) tX12_118 uX12_118 (hts _ (zm_556 _)) rfl hin rfl rfl rfl dX12_init_719 (fun H locs f_18 ek_19 ok_20 hP hD hS => ?_)
  rw [List.set_cons_zero] at hP hD
  refine lv_aload_n hx hb dX12_init_722 rfl (lv_at hl 0 rfl) ?_
  refine lv_bipush (v := 8) hx hb dX12_init_723 (by decide) ?_
  refine z_newa (atype := .long) (ty := .long) (a0 := (8, .inr (.inl (fun _ => 0)))) hx hb (hts _ (zm_4 _)) rfl hK 2 rfl hP hD hS hA (fun cA => rfl) (by decide) (by decide) (by decide) (Nat.le_trans (Nat.le_of_ble_eq_true rfl) hc) (Nat.le_trans (Nat.le_of_ble_eq_true rfl) hsl) dX12_init_725 (fun q_21 H hP hD hS => ?_)
  rw [List.cons_append] at hP hD
  refine W.widen (k := 86) (n := 1893757) (Nat.le_of_ble_eq_true rfl) (Nat.le_of_ble_eq_true rfl) ?_
  refine y_putF (T := TX12) (N := 212) (ci := 12) hx hb hts (zi_12 _) hown hK hP hD hS 0 rfl rfl 119 (by decide) tX12_119 uX12_119 (hts _ (zm_557 _)) rfl hin rfl rfl rfl dX12_init_727 (fun H locs f_22 ek_23 ok_24 hP hD hS => ?_)
  rw [List.set_cons_zero] at hP hD
  refine lv_aload_n hx hb dX12_init_730 rfl (lv_at hl 0 rfl) ?_
  refine lv_bipush (v := 8) hx hb dX12_init_731 (by decide) ?_
  refine z_newa (atype := .boolean) (ty := .boolean) (a0 := (8, .inl (fun _ => 0))) hx hb (hts _ (zm_5 _)) rfl hK 3 rfl hP hD hS hA (fun cA => rfl) (by decide) (by decide) (by decide) (Nat.le_trans (Nat.le_of_ble_eq_true rfl) hc) (Nat.le_trans (Nat.le_of_ble_eq_true rfl) hsl) dX12_init_733 (fun q_25 H hP hD hS => ?_)
  rw [List.cons_append] at hP hD
  refine W.widen (k := 87) (n := 1893765) (Nat.le_of_ble_eq_true rfl) (Nat.le_of_ble_eq_true rfl) ?_
  refine y_putF (T := TX12) (N := 212) (ci := 12) hx hb hts (zi_12 _) hown hK hP hD hS 0 rfl rfl 120 (by decide) tX12_120 uX12_120 (hts _ (zm_558 _)) rfl hin rfl rfl rfl dX12_init_735 (fun H locs f_26 ek_27 ok_28 hP hD hS => ?_)
  rw [List.set_cons_zero] at hP hD
  refine lv_aload_n hx hb dX12_init_738 rfl (lv_at hl 0 rfl) ?_
  refine lv_bipush (v := 8) hx hb dX12_init_739 (by decide) ?_
  refine z_newa (atype := .int) (ty := .int) (a0 := (8, .inl (fun _ => 0))) hx hb (hts _ (zm_2 _)) rfl hK 0 rfl hP hD hS hA (fun cA => rfl) (by decide) (by decide) (by decide) (Nat.le_trans (Nat.le_of_ble_eq_true rfl) hc) (Nat.le_trans (Nat.le_of_ble_eq_true rfl) hsl) dX12_init_741 (fun q_29 H hP hD hS => ?_)
  rw [List.cons_append] at hP hD
  refine W.widen (k := 88) (n := 1893773) (Nat.le_of_ble_eq_true rfl) (Nat.le_of_ble_eq_true rfl) ?_
  refine y_putF (T := TX12) (N := 212) (ci := 12) hx hb hts (zi_12 _) hown hK hP hD hS 0 rfl rfl 121 (by decide) tX12_121 uX12_121 (hts _ (zm_559 _)) rfl hin rfl rfl rfl dX12_init_743 (fun H locs f_30 ek_31 ok_32 hP hD hS => ?_)
  rw [List.set_cons_zero] at hP hD
  refine lv_aload_n hx hb dX12_init_746 rfl (lv_at hl 0 rfl) ?_
  refine lv_bipush (v := 8) hx hb dX12_init_747 (by decide) ?_
  refine z_newa (atype := .int) (ty := .int) (a0 := (8, .inl (fun _ => 0))) hx hb (hts _ (zm_2 _)) rfl hK 0 rfl hP hD hS hA (fun cA => rfl) (by decide) (by decide) (by decide) (Nat.le_trans (Nat.le_of_ble_eq_true rfl) hc) (Nat.le_trans (Nat.le_of_ble_eq_true rfl) hsl) dX12_init_749 (fun q_33 H hP hD hS => ?_)
  rw [List.cons_append] at hP hD
  refine W.widen (k := 89) (n := 1893781) (Nat.le_of_ble_eq_true rfl) (Nat.le_of_ble_eq_true rfl) ?_
  refine y_putF (T := TX12) (N := 212) (ci := 12) hx hb hts (zi_12 _) hown hK hP hD hS 0 rfl rfl 122 (by decide) tX12_122 uX12_122 (hts _ (zm_560 _)) rfl hin rfl rfl rfl dX12_init_751 (fun H locs f_34 ek_35 ok_36 hP hD hS => ?_)
  rw [List.set_cons_zero] at hP hD
  refine lv_aload_n hx hb dX12_init_754 rfl (lv_at hl 0 rfl) ?_
  refine lv_bipush (v := 120) hx hb dX12_init_755 (by decide) ?_
  refine z_newa (atype := .int) (ty := .int) (a0 := (120, .inl (fun _ => 0))) hx hb (hts _ (zm_2 _)) rfl hK 0 rfl hP hD hS hA (fun cA => rfl) (by decide) (by decide) (by decide) (Nat.le_trans (Nat.le_of_ble_eq_true rfl) hc) (Nat.le_trans (Nat.le_of_ble_eq_true rfl) hsl) dX12_init_757 (fun q_37 H hP hD hS => ?_)
  rw [List.cons_append] at hP hD
  refine W.widen (k := 90) (n := 1893901) (Nat.le_of_ble_eq_true rfl) (Nat.le_of_ble_eq_true rfl) ?_
  refine y_putF (T := TX12) (N := 212) (ci := 12) hx hb hts (zi_12 _) hown hK hP hD hS 0 rfl rfl 123 (by decide) tX12_123 uX12_123 (hts _ (zm_561 _)) rfl hin rfl rfl rfl dX12_init_759 (fun H locs f_38 ek_39 ok_40 hP hD hS => ?_)
  rw [List.set_cons_zero] at hP hD
  simp only [List.append_assoc, List.cons_append, List.nil_append] at hP hD
  exact kk f_38 q_1 q_5 q_9 q_13 q_17 q_21 q_25 q_29 q_33 q_37 H locs ((ok_40 114 (by decide)).trans ((ok_36 114 (by decide)).trans ((ok_32 114 (by decide)).trans ((ok_28 114 (by decide)).trans ((ok_24 114 (by decide)).trans ((ok_20 114 (by decide)).trans ((ok_16 114 (by decide)).trans ((ok_12 114 (by decide)).trans ((ok_8 114 (by decide)).trans ek_3))))))))) ((ok_40 115 (by decide)).trans ((ok_36 115 (by decide)).trans ((ok_32 115 (by decide)).trans ((ok_28 115 (by decide)).trans ((ok_24 115 (by decide)).trans ((ok_20 115 (by decide)).trans ((ok_16 115 (by decide)).trans ((ok_12 115 (by decide)).trans ek_7)))))))) ((ok_40 116 (by decide)).trans ((ok_36 116 (by decide)).trans ((ok_32 116 (by decide)).trans ((ok_28 116 (by decide)).trans ((ok_24 116 (by decide)).trans ((ok_20 116 (by decide)).trans ((ok_16 116 (by decide)).trans ek_11))))))) ((ok_40 117 (by decide)).trans ((ok_36 117 (by decide)).trans ((ok_32 117 (by decide)).trans ((ok_28 117 (by decide)).trans ((ok_24 117 (by decide)).trans ((ok_20 117 (by decide)).trans ek_15)))))) ((ok_40 118 (by decide)).trans ((ok_36 118 (by decide)).trans ((ok_32 118 (by decide)).trans ((ok_28 118 (by decide)).trans ((ok_24 118 (by decide)).trans ek_19))))) ((ok_40 119 (by decide)).trans ((ok_36 119 (by decide)).trans ((ok_32 119 (by decide)).trans ((ok_28 119 (by decide)).trans ek_23)))) ((ok_40 120 (by decide)).trans ((ok_36 120 (by decide)).trans ((ok_32 120 (by decide)).trans ek_27))) ((ok_40 121 (by decide)).trans ((ok_36 121 (by decide)).trans ek_31)) ((ok_40 122 (by decide)).trans ek_35) ek_39 (fun j hj => ((ok_40 j (hj 123 (by decide))).trans ((ok_36 j (hj 122 (by decide))).trans ((ok_32 j (hj 121 (by decide))).trans ((ok_28 j (hj 120 (by decide))).trans ((ok_24 j (hj 119 (by decide))).trans ((ok_20 j (hj 118 (by decide))).trans ((ok_16 j (hj 117 (by decide))).trans ((ok_12 j (hj 116 (by decide))).trans ((ok_8 j (hj 115 (by decide))).trans ((ok_4 j (hj 114 (by decide))).trans rfl))))))))))) hP hD hS hl

set_option maxHeartbeats 8000000 in
set_option maxRecDepth 100000 in
/-- a piece of MumpsHouseModel() -/
theorem sg_9 {p : Program} {l : Launch} {e : Env} {R : Room} {s : State} {m : MethodId} {args : Array Value} {below : List Frame} {meth : Method} {c : Code} {Q : State → Prop} {A : Nat → Prop} {D : va_G} {x : Nat → ClassId} {h0 : Nat} (hx : p.tables.exec = Jvm.exec) (hb : c.code = cX12_init) (hts : ∀ w ∈ (.code yX12_init cX12_init 2 none :: zW : List Cond), w.before args s = true) (hown : s.vm.findClass RX12 = some m.cls) (hin : meth.name = "<init>") (hZ : zK x D s) (hA : ∀ q, s.heap.size ≤ q → A q) (hc : 100 ≤ R.cells) (hsl : 1925459 ≤ R.slots) {rest : va_W} {f : Nat → Value} {H : Heap} {locs : List Loc} {ls : Array Slot} (hP : va_P D vwCl ((h0, .inr (12, zf 212 f)) :: rest) H) (hD : va_D A ((h0, .inr (12, zf 212 f)) :: rest)) (hS : va_S A s.heap H locs) (hl : lv_has ls 2 [(0, .ref h0)])
    (kk : ∀ (f' : Nat → Value) (q_1 q_5 q_9 q_13 q_17 q_21 q_25 q_29 q_33 q_37 : Nat) (H : Heap) (locs : List Loc), f' 124 = .ref q_1 → f' 125 = .ref q_5 → f' 126 = .ref q_9 → f' 127 = .ref q_13 → f' 128 = .ref q_17 → f' 129 = .ref q_21 → f' 130 = .ref q_25 → f' 131 = .ref q_29 → f' 132 = .ref q_33 → f' 133 = .ref q_37 → (∀ j, (∀ k ∈ [124, 125, 126, 127, 128, 129, 130, 131, 132, 133], j ≠ k) → f' j = f j) → va_P D vwCl ((h0, .inr (12, zf 212 f')) :: (rest ++ [(q_1, .inl (x 1, 30240, .inl (fun _ => 0))), (q_5, .inl (x 0, 8, .inl (fun _ => 0))), (q_9, .inl (x 0, 8, .inl (fun _ => 0))), (q_13, .inl (x 0, 186, .inl (fun _ => 0))), (q_17, .inl (x 0, 186, .inl (fun _ => 0))), (q_21, .inl (x 0, 186, .inl (fun _ => 0))), (q_25, .inl (x 0, 186, .inl (fun _ => 0))), (q_29, .inl (x 0, 186, .inl (fun _ => 0))), (q_33, .inl (x 0, 186, .inl (fun _ => 0))), (q_37, .inl (x 0, 186, .inl (fun _ => 0)))])) H → va_D A ((h0, .inr (12, zf 212 f')) :: (rest ++ [(q_1, .inl (x 1, 30240, .inl (fun _ => 0))), (q_5, .inl (x 0, 8, .inl (fun _ => 0))), (q_9, .inl (x 0, 8, .inl (fun _ => 0))), (q_13, .inl (x 0, 186, .inl (fun _ => 0))), (q_17, .inl (x 0, 186, .inl (fun _ => 0))), (q_21, .inl (x 0, 186, .inl (fun _ => 0))), (q_25, .inl (x 0, 186, .inl (fun _ => 0))), (q_29, .inl (x 0, 186, .inl (fun _ => 0))), (q_33, .inl (x 0, 186, .inl (fun _ => 0))), (q_37, .inl (x 0, 186, .inl (fun _ => 0)))])) → va_S A s.heap H locs → lv_has ls 2 [(0, .ref h0)] → W p l e R s m args below meth c H locs 100 1925459 Q (F0 m 850 ls [])) :
    W p l e R s m args below meth c H locs 90 1893901 Q (F0 m 762 ls []) := by
  have hK := hZ.1
  refine lv_aload_n hx hb dX12_init_762 rfl (lv_at hl 0 rfl) ?_
  refine lv_sipush (v := 30240) hx hb dX12_init_763 (by decide) ?_
  refine z_newa (atype := .byte) (ty := .byte) (a0 := (30240, .inl (fun _ => 0))) hx hb (hts _ (zm_3 _)) rfl hK 1 rfl hP hD hS hA (fun cA => rfl) (by decide) (by decide) (by decide) (Nat.le_trans (Nat.le_of_ble_eq_true rfl) hc) (Nat.le_trans (Nat.le_of_ble_eq_true rfl) hsl) dX12_init_766 (fun q_1 H hP hD hS => ?_)
  rw [List.cons_append] at hP hD
  refine W.widen (k := 91) (n := 1924141) (Nat.le_of_ble_eq_true rfl) (Nat.le_of_ble_eq_true rfl) ?_
  refine y_putF (T := TX12) (N := 212) (ci := 12) hx hb hts (zi_12 _) hown hK hP hD hS 0 rfl rfl 124 (by decide) tX12_124 uX12_124 (hts _ (zm_562 _)) rfl hin rfl rfl rfl dX12_init_768 (fun H locs f_2 ek_3 ok_4 hP hD hS => ?_)
  rw [List.set_cons_zero] at hP hD
  refine lv_aload_n hx hb dX12_init_771 rfl (lv_at hl 0 rfl) ?_
  refine lv_bipush (v := 8) hx hb dX12_init_772 (by decide) ?_
  refine z_newa (atype := .int) (ty := .int) (a0 := (8, .inl (fun _ => 0))) hx hb (hts _ (zm_2 _)) rfl hK 0 rfl hP hD hS hA (fun cA => rfl) (by decide) (by decide) (by decide) (Nat.le_trans (Nat.le_of_ble_eq_true rfl) hc) (Nat.le_trans (Nat.le_of_ble_eq_true rfl) hsl) dX12_init_774 (fun q_5 H hP hD hS => ?_)
  rw [List.cons_append] at hP hD
  refine W.widen (k := 92) (n := 1924149) (Nat.le_of_ble_eq_true rfl) (Nat.le_of_ble_eq_true rfl) ?_
  refine y_putF (T := TX12) (N := 212) (ci := 12) hx hb hts (zi_12 _) hown hK hP hD hS 0 rfl rfl 125 (by decide) tX12_125 uX12_125 (hts _ (zm_563 _)) rfl hin rfl rfl rfl dX12_init_776 (fun H locs f_6 ek_7 ok_8 hP hD hS => ?_)
  rw [List.set_cons_zero] at hP hD
  refine lv_aload_n hx hb dX12_init_779 rfl (lv_at hl 0 rfl) ?_
  refine lv_bipush (v := 8) hx hb dX12_init_780 (by decide) ?_
  refine z_newa (atype := .int) (ty := .int) (a0 := (8, .inl (fun _ => 0))) hx hb (hts _ (zm_2 _)) rfl hK 0 rfl hP hD hS hA (fun cA => rfl) (by decide) (by decide) (by decide) (Nat.le_trans (Nat.le_of_ble_eq_true rfl) hc) (Nat.le_trans (Nat.le_of_ble_eq_true rfl) hsl) dX12_init_782 (fun q_9 H hP hD hS => ?_)
  rw [List.cons_append] at hP hD
  refine W.widen (k := 93) (n := 1924157) (Nat.le_of_ble_eq_true rfl) (Nat.le_of_ble_eq_true rfl) ?_
  refine y_putF (T := TX12) (N := 212) (ci := 12) hx hb hts (zi_12 _) hown hK hP hD hS 0 rfl rfl 126 (by decide) tX12_126 uX12_126 (hts _ (zm_564 _)) rfl hin rfl rfl rfl dX12_init_784 (fun H locs f_10 ek_11 ok_12 hP hD hS => ?_)
  rw [List.set_cons_zero] at hP hD
  refine lv_aload_n hx hb dX12_init_787 rfl (lv_at hl 0 rfl) ?_
  refine lv_sipush (v := 186) hx hb dX12_init_788 (by decide) ?_
  refine z_newa (atype := .int) (ty := .int) (a0 := (186, .inl (fun _ => 0))) hx hb (hts _ (zm_2 _)) rfl hK 0 rfl hP hD hS hA (fun cA => rfl) (by decide) (by decide) (by decide) (Nat.le_trans (Nat.le_of_ble_eq_true rfl) hc) (Nat.le_trans (Nat.le_of_ble_eq_true rfl) hsl) dX12_init_791 (fun q_13 H hP hD hS => ?_)
  rw [List.cons_append] at hP hD
  refine W.widen (k := 94) (n := 1924343) (Nat.le_of_ble_eq_true rfl) (Nat.le_of_ble_eq_true rfl) ?_
  refine y_putF (T := TX12) (N := 212) (ci := 12) hx hb hts (zi_12 _) hown hK hP hD hS 0 rfl rfl 127 (by decide) tX12_127 uX12_127 (hts _ (zm_565 _)) rfl hin rfl rfl rfl dX12_init_793 (fun H locs f_14 ek_15 ok_16 hP hD hS => ?_)
  rw [List.set_cons_zero] at hP hD
  refine lv_aload_n hx hb dX12_init_796 rfl (lv_at hl 0 rfl) ?_
  refine lv_sipush (v := 186) hx hb dX12_init_797 (by decide) ?_
  refine z_newa (atype := .int) (ty := .int) (a0 := (186, .inl (fun _ => 0))) hx hb (hts _ (zm_2 _)) rfl hK 0 rfl hP hD hS hA (fun cA => rfl) (by decide) (by decide) (by decide) (Nat.le_trans (Nat.le_of_ble_eq_true rfl) hc) (Nat.le_trans (Nat.le_of_ble_eq_true rfl) hsl) dX12_init_800 (fun q_17 H hP hD hS => ?_)
  rw [List.cons_append] at hP hD
  refine W.widen (k := 95) (n := 1924529) (Nat.le_of_ble_eq_true rfl) (Nat.le_of_ble_eq_true rfl) ?_
  refine y_putF (T := TX12) (N := 212) (ci := 12) hx hb hts (zi_12 _) hown hK hP hD hS 0 rfl rfl 128 (by decide) tX12_128 uX12_128 (hts _ (zm_566 _)) rfl hin rfl rfl rfl dX12_init_802 (fun H locs f_18 ek_19 ok_20 hP hD hS => ?_)
  rw [List.set_cons_zero] at hP hD
  refine lv_aload_n hx hb dX12_init_805 rfl (lv_at hl 0 rfl) ?_
  refine lv_sipush (v := 186) hx hb dX12_init_806 (by decide) ?_
  refine z_newa (atype := .int) (ty := .int) (a0 := (186, .inl (fun _ => 0))) hx hb (hts _ (zm_2 _)) rfl hK 0 rfl hP hD hS hA (fun cA => rfl) (by decide) (by decide) (by decide) (Nat.le_trans (Nat.le_of_ble_eq_true rfl) hc) (Nat.le_trans (Nat.le_of_ble_eq_true rfl) hsl) dX12_init_809 (fun q_21 H hP hD hS => ?_)
  rw [List.cons_append] at hP hD
  refine W.widen (k := 96) (n := 1924715) (Nat.le_of_ble_eq_true rfl) (Nat.le_of_ble_eq_true rfl) ?_
  refine y_putF (T := TX12) (N := 212) (ci := 12) hx hb hts (zi_12 _) hown hK hP hD hS 0 rfl rfl 129 (by decide) tX12_129 uX12_129 (hts _ (zm_567 _)) rfl hin rfl rfl rfl dX12_init_811 (fun H locs f_22 ek_23 ok_24 hP hD hS => ?_)
  rw [List.set_cons_zero] at hP hD
  refine lv_aload_n hx hb dX12_init_814 rfl (lv_at hl 0 rfl) ?_
  refine lv_sipush (v := 186) hx hb dX12_init_815 (by decide) ?_
  refine z_newa (atype := .int) (ty := .int) (a0 := (186, .inl (fun _ => 0))) hx hb (hts _ (zm_2 _)) rfl hK 0 rfl hP hD hS hA (fun cA => rfl) (by decide) (by decide) (by decide) (Nat.le_trans (Nat.le_of_ble_eq_true rfl) hc) (Nat.le_trans (Nat.le_of_ble_eq_true rfl) hsl) dX12_init_818 (fun q_25 H hP hD hS => ?_)
  rw [List.cons_append] at hP hD
  refine W.widen (k := 97) (n := 1924901) (Nat.le_of_ble_eq_true rfl) (Nat.le_of_ble_eq_true rfl) ?_
  refine y_putF (T := TX12) (N := 212) (ci := 12) hx hb hts (zi_12 _) hown hK hP hD hS 0 rfl rfl 130 (by decide) tX12_130 uX12_130 (hts _ (zm_568 _)) rfl hin rfl rfl rfl dX12_init_820 (fun H locs f_26 ek_27 ok_28 hP hD hS => ?_)
  rw [List.set_cons_zero] at hP hD
  refine lv_aload_n hx hb dX12_init_823 rfl (lv_at hl 0 rfl) ?_
  refine lv_sipush (v := 186) hx hb dX12_init_824 (by decide) ?_
  refine z_newa (atype := .int) (ty := .int) (a0 := (186, .inl (fun _ => 0))) hx hb (hts _ (zm_2 _)) rfl hK 0 rfl hP hD hS hA (fun cA => rfl) (by decide) (by decide) (by decide) (Nat.le_trans (Nat.le_of_ble_eq_true rfl) hc) (Nat.le_trans (Nat.le_of_ble_eq_true rfl) hsl) dX12_init_827 (fun q_29 H hP hD hS => ?_)
  rw [List.cons_append] at hP hD
  refine W.widen (k := 98) (n := 1925087) (Nat.le_of_ble_eq_true rfl) (Nat.le_of_ble_eq_true rfl) ?_
  refine y_putF (T := TX12) (N := 212) (ci := 12) hx hb hts (zi_12 _) hown hK hP hD hS 0 rfl rfl 131 (by decide) tX12_131 uX12_131 (hts _ (zm_569 _)) rfl hin rfl rfl rfl dX12_init_829 (fun H locs f_30 ek_31 ok_32 hP hD hS => ?_)
  rw [List.set_cons_zero] at hP hD
  refine lv_aload_n hx hb dX12_init_832 rfl (lv_at hl 0 rfl) ?_
  refine lv_sipush (v := 186) hx hb dX12_init_833 (by decide) ?_
  refine z_newa (atype := .int) (ty := .int) (a0 := (186, .inl (fun _ => 0))) hx hb (hts _ (zm_2 _)) rfl hK 0 rfl hP hD hS hA (fun cA => rfl) (by decide) (by decide) (by decide) (Nat.le_trans (Nat.le_of_ble_eq_true rfl) hc) (Nat.le_trans (Nat.le_of_ble_eq_true rfl) hsl) dX12_init_836 (fun q_33 H hP hD hS => ?_)
  rw [List.cons_append] at hP hD
  refine W.widen (k := 99) (n := 1925273) (Nat.le_of_ble_eq_true rfl) (Nat.le_of_ble_eq_true rfl) ?_
  refine y_putF (T := TX12) (N := 212) (ci := 12) hx hb hts (zi_12 _) hown hK hP hD hS 0 rfl rfl 132 (by decide) tX12_132 uX12_132 (hts _ (zm_570 _)) rfl hin rfl rfl rfl dX12_init_838 (fun H locs f_34 ek_35 ok_36 hP hD hS => ?_)
  rw [List.set_cons_zero] at hP hD
  refine lv_aload_n hx hb dX12_init_841 rfl (lv_at hl 0 rfl) ?_
  refine lv_sipush (v := 186) hx hb dX12_init_842 (by decide) ?_
  refine z_newa (atype := .int) (ty := .int) (a0 := (186, .inl (fun _ => 0))) hx hb (hts _ (zm_2 _)) rfl hK 0 rfl hP hD hS hA (fun cA => rfl) (by decide) (by decide) (by decide) (Nat.le_trans (Nat.le_of_ble_eq_true rfl) hc) (Nat.le_trans (Nat.le_of_ble_eq_true rfl) hsl) dX12_init_845 (fun q_37 H hP hD hS => ?_)
  rw [List.cons_append] at hP hD
  refine W.widen (k := 100) (n := 1925459) (Nat.le_of_ble_eq_true rfl) (Nat.le_of_ble_eq_true rfl) ?_
  refine y_putF (T := TX12) (N := 212) (ci := 12) hx hb hts (zi_12 _) hown hK hP hD hS 0 rfl rfl 133 (by decide) tX12_133 uX12_133 (hts _ (zm_571 _)) rfl hin rfl rfl rfl dX12_init_847 (fun H locs f_38 ek_39 ok_40 hP hD hS => ?_)
  rw [List.set_cons_zero] at hP hD
  simp only [List.append_assoc, List.cons_append, List.nil_append] at hP hD
  exact kk f_38 q_1 q_5 q_9 q_13 q_17 q_21 q_25 q_29 q_33 q_37 H locs ((ok_40 124 (by decide)).trans ((ok_36 124 (by decide)).trans ((ok_32 124 (by decide)).trans ((ok_28 124 (by decide)).trans ((ok_24 124 (by decide)).trans ((ok_20 124 (by decide)).trans ((ok_16 124 (by decide)).trans ((ok_12 124 (by decide)).trans ((ok_8 124 (by decide)).trans ek_3))))))))) ((ok_40 125 (by decide)).trans ((ok_36 125 (by decide)).trans ((ok_32 125 (by decide)).trans ((ok_28 125 (by decide)).trans ((ok_24 125 (by decide)).trans ((ok_20 125 (by decide)).trans ((ok_16 125 (by decide)).trans ((ok_12 125 (by decide)).trans ek_7)))))))) ((ok_40 126 (by decide)).trans ((ok_36 126 (by decide)).trans ((ok_32 126 (by decide)).trans ((ok_28 126 (by decide)).trans ((ok_24 126 (by decide)).trans ((ok_20 126 (by decide)).trans ((ok_16 126 (by decide)).trans ek_11))))))) ((ok_40 127 (by decide)).trans ((ok_36 127 (by decide)).trans ((ok_32 127 (by decide)).trans ((ok_28 127 (by decide)).trans ((ok_24 127 (by decide)).trans ((ok_20 127 (by decide)).trans ek_15)))))) ((ok_40 128 (by decide)).trans ((ok_36 128 (by decide)).trans ((ok_32 128 (by decide)).trans ((ok_28 128 (by decide)).trans ((ok_24 128 (by decide)).trans ek_19))))) ((ok_40 129 (by decide)).trans ((ok_36 129 (by decide)).trans ((ok_32 129 (by decide)).trans ((ok_28 129 (by decide)).trans ek_23)))) ((ok_40 130 (by decide)).trans ((ok_36 130 (by decide)).trans ((ok_32 130 (by decide)).trans ek_27))) ((ok_40 131 (by decide)).trans ((ok_36 131 (by decide)).trans ek_31)) ((ok_40 132 (by decide)).trans ek_35) ek_39 (fun j hj => ((ok_40 j (hj 133 (by decide))).trans ((ok_36 j (hj 132 (by decide))).trans ((ok_32 j (hj 131 (by decide))).trans ((ok_28 j (hj 130 (by decide))).trans ((ok_24 j (hj 129 (by decide))).trans ((ok_20 j (hj 128 (by decide))).trans ((ok_16 j (hj 127 (by decide))).trans ((ok_12 j (hj 126 (by decide))).trans ((ok_8 j (hj 125 (by decide))).trans ((ok_4 j (hj 124 (by decide))).trans rfl))))))))))) hP hD hS hl

set_option maxHeartbeats 8000000 in
set_option maxRecDepth 100000 in
/-- a piece of MumpsHouseModel() -/
theorem sg_10 {p : Program} {l : Launch} {e : Env} {R : Room} {s : State} {m : MethodId} {args : Array Value} {below : List Frame} {meth : Method} {c : Code} {Q : State → Prop} {A : Nat → Prop} {D : va_G} {x : Nat → ClassId} {h0 : Nat} (hx : p.tables.exec = Jvm.exec) (hb : c.code = cX12_init) (hts : ∀ w ∈ (.code yX12_init cX12_init 2 none :: zW : List Cond), w.before args s = true) (hown : s.vm.findClass RX12 = some m.cls) (hin : meth.name = "<init>") (hZ : zK x D s) (hA : ∀ q, s.heap.size ≤ q → A q) (hc : 110 ≤ R.cells) (hsl : 1927319 ≤ R.slots) {rest : va_W} {f : Nat → Value} {H : Heap} {locs : List Loc} {ls : Array Slot} (hP : va_P D vwCl ((h0, .inr (12, zf 212 f)) :: rest) H) (hD : va_D A ((h0, .inr (12, zf 212 f)) :: rest)) (hS : va_S A s.heap H locs) (hl : lv_has ls 2 [(0, .ref h0)])
    (kk : ∀ (f' : Nat → Value) (q_1 q_5 q_9 q_13 q_17 q_21 q_25 q_29 q_33 q_37 : Nat) (H : Heap) (locs : List Loc), f' 134 = .ref q_1 → f' 135 = .ref q_5 → f' 136 = .ref q_9 → f' 137 = .ref q_13 → f' 138 = .ref q_17 → f' 139 = .ref q_21 → f' 140 = .ref q_25 → f' 141 = .ref q_29 → f' 142 = .ref q_33 → f' 143 = .ref q_37 → (∀ j, (∀ k ∈ [134, 135, 136, 137, 138, 139, 140, 141, 142, 143], j ≠ k) → f' j = f j) → va_P D vwCl ((h0, .inr (12, zf 212 f')) :: (rest ++ [(q_1, .inl (x 0, 186, .inl (fun _ => 0))), (q_5, .inl (x 0, 186, .inl (fun _ => 0))), (q_9, .inl (x 0, 186, .inl (fun _ => 0))), (q_13, .inl (x 0, 186, .inl (fun _ => 0))), (q_17, .inl (x 0, 186, .inl (fun _ => 0))), (q_21, .inl (x 0, 186, .inl (fun _ => 0))), (q_25, .inl (x 0, 186, .inl (fun _ => 0))), (q_29, .inl (x 0, 186, .inl (fun _ => 0))), (q_33, .inl (x 3, 186, .inl (fun _ => 0))), (q_37, .inl (x 3, 186, .inl (fun _ => 0)))])) H → va_D A ((h0, .inr (12, zf 212 f')) :: (rest ++ [(q_1, .inl (x 0, 186, .inl (fun _ => 0))), (q_5, .inl (x 0, 186, .inl (fun _ => 0))), (q_9, .inl (x 0, 186, .inl (fun _ => 0))), (q_13, .inl (x 0, 186, .inl (fun _ => 0))), (q_17, .inl (x 0, 186, .inl (fun _ => 0))), (q_21, .inl (x 0, 186, .inl (fun _ => 0))), (q_25, .inl (x 0, 186, .inl (fun _ => 0))), (q_29, .inl (x 0, 186, .inl (fun _ => 0))), (q_33, .inl (x 3, 186, .inl (fun _ => 0))), (q_37, .inl (x 3, 186, .inl (fun _ => 0)))])) → va_S A s.heap H locs → lv_has ls 2 [(0, .ref h0)] → W p l e R s m args below meth c H locs 110 1927319 Q (F0 m 940 ls [])) :
    W p l e R s m args below meth c H locs 100 1925459 Q (F0 m 850 ls []) := by
  have hK := hZ.1
  refine lv_aload_n hx hb dX12_init_850 rfl (lv_at hl 0 rfl) ?_
  refine lv_sipush (v := 186) hx hb dX12_init_851 (by decide) ?_
  refine z_newa (atype := .int) (ty := .int) (a0 := (186, .inl (fun _ => 0))) hx hb (hts _ (zm_2 _)) rfl hK 0 rfl hP hD hS hA (fun cA => rfl) (by decide) (by decide) (by decide) (Nat.le_trans (Nat.le_of_ble_eq_true rfl) hc) (Nat.le_trans (Nat.le_of_ble_eq_true rfl) hsl) dX12_init_854 (fun q_1 H hP hD hS => ?_)
  rw [List.cons_append] at hP hD
  refine W.widen (k := 101) (n := 1925645) (Nat.le_of_ble_eq_true rfl) (Nat.le_of_ble_eq_true rfl) ?_
  refine y_putF (T := TX12) (N := 212) (ci := 12) hx hb hts (zi_12 _) hown hK hP hD hS 0 rfl rfl 134 (by decide) tX12_134 uX12_134 (hts _ (zm_572 _)) rfl hin rfl rfl rfl dX12_init_856 (fun H locs f_2 ek_3 ok_4 hP hD hS => ?_)
  rw [List.set_cons_zero] at hP hD
  refine lv_aload_n hx hb dX12_init_859 rfl (lv_at hl 0 rfl) ?_
  refine lv_sipush (v := 186) hx hb dX12_init_860 (by decide) ?_
  refine z_newa (atype := .int) (ty := .int) (a0 := (186, .inl (fun _ => 0))) hx hb (hts _ (zm_2 _)) rfl hK 0 rfl hP hD hS hA (fun cA => rfl) (by decide) (by decide) (by decide) (Nat.le_trans (Nat.le_of_ble_eq_true rfl) hc) (Nat.le_trans (Nat.le_of_ble_eq_true rfl) hsl) dX12_init_863 (fun q_5 H hP hD hS => ?_)
  rw [List.cons_append] at hP hD
  refine W.widen (k := 102) (n := 1925831) (Nat.le_of_ble_eq_true rfl) (Nat.le_of_ble_eq_true rfl) ?_
  refine y_putF (T := TX12) (N := 212) (ci := 12) hx hb hts (zi_12 _) hown hK hP hD hS 0 rfl rfl 135 (by decide) tX12_135 uX12_135 (hts _ (zm_573 _)) rfl hin rfl rfl rfl dX12_init_865 (fun H locs f_6 ek_7 ok_8 hP hD hS => ?_)
  rw [List.set_cons_zero] at hP hD
  refine lv_aload_n hx hb dX12_init_868 rfl (lv_at hl 0 rfl) ?_
  refine lv_sipush (v := 186) hx hb dX12_init_869 (by decide) ?_
  refine z_newa (atype := .int) (ty := .int) (a0 := (186, .inl (fun _ => 0))) hx hb (hts _ (zm_2 _)) rfl hK 0 rfl hP hD hS hA (fun cA => rfl) (by decide) (by decide) (by decide) (Nat.le_trans (Nat.le_of_ble_eq_true rfl) hc) (Nat.le_trans (Nat.le_of_ble_eq_true rfl) hsl) dX12_init_872 (fun q_9 H hP hD hS => ?_)
  rw [List.cons_append] at hP hD
  refine W.widen (k := 103) (n := 1926017) (Nat.le_of_ble_eq_true rfl) (Nat.le_of_ble_eq_true rfl) ?_
  refine y_putF (T := TX12) (N := 212) (ci := 12) hx hb hts (zi_12 _) hown hK hP hD hS 0 rfl rfl 136 (by decide) tX12_136 uX12_136 (hts _ (zm_574 _)) rfl hin rfl rfl rfl dX12_init_874 (fun H locs f_10 ek_11 ok_12 hP hD hS => ?_)
  rw [List.set_cons_zero] at hP hD
  refine lv_aload_n hx hb dX12_init_877 rfl (lv_at hl 0 rfl) ?_
  refine lv_sipush (v := 186) hx hb dX12_init_878 (by decide) ?_
  refine z_newa (atype := .int) (ty := .int) (a0 := (186, .inl (fun _ => 0))) hx hb (hts _ (zm_2 _)) rfl hK 0 rfl hP hD hS hA (fun cA => rfl) (by decide) (by decide) (by decide) (Nat.le_trans (Nat.le_of_ble_eq_true rfl) hc) (Nat.le_trans (Nat.le_of_ble_eq_true rfl) hsl) dX12_init_881 (fun q_13 H hP hD hS => ?_)
  rw [List.cons_append] at hP hD
  refine W.widen (k := 104) (n := 1926203) (Nat.le_of_ble_eq_true rfl) (Nat.le_of_ble_eq_true rfl) ?_
  refine y_putF (T := TX12) (N := 212) (ci := 12) hx hb hts (zi_12 _) hown hK hP hD hS 0 rfl rfl 137 (by decide) tX12_137 uX12_137 (hts _ (zm_575 _)) rfl hin rfl rfl rfl dX12_init_883 (fun H locs f_14 ek_15 ok_16 hP hD hS => ?_)
  rw [List.set_cons_zero] at hP hD
  refine lv_aload_n hx hb dX12_init_886 rfl (lv_at hl 0 rfl) ?_
  refine lv_sipush (v := 186) hx hb dX12_init_887 (by decide) ?_
  refine z_newa (atype := .int) (ty := .int) (a0 := (186, .inl (fun _ => 0))) hx hb (hts _ (zm_2 _)) rfl hK 0 rfl hP hD hS hA (fun cA => rfl) (by decide) (by decide) (by decide) (Nat.le_trans (Nat.le_of_ble_eq_true rfl) hc) (Nat.le_trans (Nat.le_of_ble_eq_true rfl) hsl) dX12_init_890 (fun q_17 H hP hD hS => ?_)
  rw [List.cons_append] at hP hD
  refine W.widen (k := 105) (n := 1926389) (Nat.le_of_ble_eq_true rfl) (Nat.le_of_ble_eq_true rfl) ?_
  refine y_putF (T := TX12) (N := 212) (ci := 12) hx hb hts (zi_12 _) hown hK hP hD hS 0 rfl rfl 138 (by decide) tX12_138 uX12_138 (hts _ (zm_576 _)) rfl hin rfl rfl rfl dX12_init_892 (fun H locs f_18 ek_19 ok_20 hP hD hS => ?_)
  rw [List.set_cons_zero] at hP hD
  refine lv_aload_n hx hb dX12_init_895 rfl (lv_at hl 0 rfl) ?_
  refine lv_sipush (v := 186) hx hb dX12_init_896 (by decide) ?_
  refine z_newa (atype := .int) (ty := .int) (a0 := (186, .inl (fun _ => 0))) hx hb (hts _ (zm_2 _)) rfl hK 0 rfl hP hD hS hA (fun cA => rfl) (by decide) (by decide) (by decide) (Nat.le_trans (Nat.le_of_ble_eq_true rfl) hc) (Nat.le_trans (Nat.le_of_ble_eq_true rfl) hsl) dX12_init_899 (fun q_21 H hP hD hS => ?_)
  rw [List.cons_append] at hP hD
  refine W.widen (k := 106) (n := 1926575) (Nat.le_of_ble_eq_true rfl) (Nat.le_of_ble_eq_true rfl) ?_
  refine y_putF (T := TX12) (N := 212) (ci := 12) hx hb hts (zi_12 _) hown hK hP hD hS 0 rfl rfl 139 (by decide) tX12_139 uX12_139 (hts _ (zm_577 _)) rfl hin rfl rfl rfl dX12_init_901 (fun H locs f_22 ek_23 ok_24 hP hD hS => ?_)
  rw [List.set_cons_zero] at hP hD
  refine lv_aload_n hx hb dX12_init_904 rfl (lv_at hl 0 rfl) ?_
  refine lv_sipush (v := 186) hx hb dX12_init_905 (by decide) ?_
  refine z_newa (atype := .int) (ty := .int) (a0 := (186, .inl (fun _ => 0))) hx hb (hts _ (zm_2 _)) rfl hK 0 rfl hP hD hS hA (fun cA => rfl) (by decide) (by decide) (by decide) (Nat.le_trans (Nat.le_of_ble_eq_true rfl) hc) (Nat.le_trans (Nat.le_of_ble_eq_true rfl) hsl) dX12_init_908 (fun q_25 H hP hD hS => ?_)
  rw [List.cons_append] at hP hD
  refine W.widen (k := 107) (n := 1926761) (Nat.le_of_ble_eq_true rfl) (Nat.le_of_ble_eq_true rfl) ?_
  refine y_putF (T := TX12) (N := 212) (ci := 12) hx hb hts (zi_12 _) hown hK hP hD hS 0 rfl rfl 140 (by decide) tX12_140 uX12_140 (hts _ (zm_578 _)) rfl hin rfl rfl rfl dX12_init_910 (fun H locs f_26 ek_27 ok_28 hP hD hS => ?_)
  rw [List.set_cons_zero] at hP hD
  refine lv_aload_n hx hb dX12_init_913 rfl (lv_at hl 0 rfl) ?_
  refine lv_sipush (v := 186) hx hb dX12_init_914 (by decide) ?_
  refine z_newa (atype := .int) (ty := .int) (a0 := (186, .inl (fun _ => 0))) hx hb (hts _ (zm_2 _)) rfl hK 0 rfl hP hD hS hA (fun cA => rfl) (by decide) (by decide) (by decide) (Nat.le_trans (Nat.le_of_ble_eq_true rfl) hc) (Nat.le_trans (Nat.le_of_ble_eq_true rfl) hsl) dX12_init_917 (fun q_29 H hP hD hS => ?_)
  rw [List.cons_append] at hP hD
  refine W.widen (k := 108) (n := 1926947) (Nat.le_of_ble_eq_true rfl) (Nat.le_of_ble_eq_true rfl) ?_
  refine y_putF (T := TX12) (N := 212) (ci := 12) hx hb hts (zi_12 _) hown hK hP hD hS 0 rfl rfl 141 (by decide) tX12_141 uX12_141 (hts _ (zm_579 _)) rfl hin rfl rfl rfl dX12_init_919 (fun H locs f_30 ek_31 ok_32 hP hD hS => ?_)
  rw [List.set_cons_zero] at hP hD
  refine lv_aload_n hx hb dX12_init_922 rfl (lv_at hl 0 rfl) ?_
  refine lv_sipush (v := 186) hx hb dX12_init_923 (by decide) ?_
  refine z_newa (atype := .boolean) (ty := .boolean) (a0 := (186, .inl (fun _ => 0))) hx hb (hts _ (zm_5 _)) rfl hK 3 rfl hP hD hS hA (fun cA => rfl) (by decide) (by decide) (by decide) (Nat.le_trans (Nat.le_of_ble_eq_true rfl) hc) (Nat.le_trans (Nat.le_of_ble_eq_true rfl) hsl) dX12_init_926 (fun q_33 H hP hD hS => ?_)
  rw [List.cons_append] at hP hD
  refine W.widen (k := 109) (n := 1927133) (Nat.le_of_ble_eq_true rfl) (Nat.le_of_ble_eq_true rfl) ?_
  refine y_putF (T := TX12) (N := 212) (ci := 12) hx hb hts (zi_12 _) hown hK hP hD hS 0 rfl rfl 142 (by decide) tX12_142 uX12_142 (hts _ (zm_580 _)) rfl hin rfl rfl rfl dX12_init_928 (fun H locs f_34 ek_35 ok_36 hP hD hS => ?_)
  rw [List.set_cons_zero] at hP hD
  refine lv_aload_n hx hb dX12_init_931 rfl (lv_at hl 0 rfl) ?_
  refine lv_sipush (v := 186) hx hb dX12_init_932 (by decide) ?_
  refine z_newa (atype := .boolean) (ty := .boolean) (a0 := (186, .inl (fun _ => 0))) hx hb (hts _ (zm_5 _)) rfl hK 3 rfl hP hD hS hA (fun cA => rfl) (by decide) (by decide) (by decide) (Nat.le_trans (Nat.le_of_ble_eq_true rfl) hc) (Nat.le_trans (Nat.le_of_ble_eq_true rfl) hsl) dX12_init_935 (fun q_37 H hP hD hS => ?_)
  rw [List.cons_append] at hP hD
  refine W.widen (k := 110) (n := 1927319) (Nat.le_of_ble_eq_true rfl) (Nat.le_of_ble_eq_true rfl) ?_
  refine y_putF (T := TX12) (N := 212) (ci := 12) hx hb hts (zi_12 _) hown hK hP hD hS 0 rfl rfl 143 (by decide) tX12_143 uX12_143 (hts _ (zm_581 _)) rfl hin rfl rfl rfl dX12_init_937 (fun H locs f_38 ek_39 ok_40 hP hD hS => ?_)
  rw [List.set_cons_zero] at hP hD
  simp only [List.append_assoc, List.cons_append, List.nil_append] at hP hD
  exact kk f_38 q_1 q_5 q_9 q_13 q_17 q_21 q_25 q_29 q_33 q_37 H locs ((ok_40 134 (by decide)).trans ((ok_36 134 (by decide)).trans ((ok_32 134 (by decide)).trans ((ok_28 134 (by decide)).trans ((ok_24 134 (by decide)).trans ((ok_20 134 (by decide)).trans ((ok_16 134 (by decide)).trans ((ok_12 134 (by decide)).trans ((ok_8 134 (by decide)).trans ek_3))))))))) ((ok_40 135 (by decide)).trans ((ok_36 135 (by decide)).trans ((ok_32 135 (by decide)).trans ((ok_28 135 (by decide)).trans ((ok_24 135 (by decide)).trans ((ok_20 135 (by decide)).trans ((ok_16 135 (by decide)).trans ((ok_12 135 (by decide)).trans ek_7)))))))) ((ok_40 136 (by decide)).trans ((ok_36 136 (by decide)).trans ((ok_32 136 (by decide)).trans ((ok_28 136 (by decide)).trans ((ok_24 136 (by decide)).trans ((ok_20 136 (by decide)).trans ((ok_16 136 (by decide)).trans ek_11))))))) ((ok_40 137 (by decide)).trans ((ok_36 137 (by decide)).trans ((ok_32 137 (by decide)).trans ((ok_28 137 (by decide)).trans ((ok_24 137 (by decide)).trans ((ok_20 137 (by decide)).trans ek_15)))))) ((ok_40 138 (by decide)).trans ((ok_36 138 (by decide)).trans ((ok_32 138 (by decide)).trans ((ok_28 138 (by decide)).trans ((ok_24 138 (by decide)).trans ek_19))))) ((ok_40 139 (by decide)).trans ((ok_36 139 (by decide)).trans ((ok_32 139 (by decide)).trans ((ok_28 139 (by decide)).trans ek_23)))) ((ok_40 140 (by decide)).trans ((ok_36 140 (by decide)).trans ((ok_32 140 (by decide)).trans ek_27))) ((ok_40 141 (by decide)).trans ((ok_36 141 (by decide)).trans ek_31)) ((ok_40 142 (by decide)).trans ek_35) ek_39 (fun j hj => ((ok_40 j (hj 143 (by decide))).trans ((ok_36 j (hj 142 (by decide))).trans ((ok_32 j (hj 141 (by decide))).trans ((ok_28 j (hj 140 (by decide))).trans ((ok_24 j (hj 139 (by decide))).trans ((ok_20 j (hj 138 (by decide))).trans ((ok_16 j (hj 137 (by decide))).trans ((ok_12 j (hj 136 (by decide))).trans ((ok_8 j (hj 135 (by decide))).trans ((ok_4 j (hj 134 (by decide))).trans rfl))))))))))) hP hD hS hl

set_option maxHeartbeats 8000000 in
set_option maxRecDepth 100000 in
/-- a piece of MumpsHouseModel() -/
theorem sg_11 {p : Program} {l : Launch} {e : Env} {R : Room} {s : State} {m : MethodId} {args : Array Value} {below : List Frame} {meth : Method} {c : Code} {Q : State → Prop} {A : Nat → Prop} {D : va_G} {x : Nat → ClassId} {h0 : Nat} (hx : p.tables.exec = Jvm.exec) (hb : c.code = cX12_init) (hts : ∀ w ∈ (.code yX12_init cX12_init 2 none :: zW : List Cond), w.before args s = true) (hown : s.vm.findClass RX12 = some m.cls) (hin : meth.name = "<init>") (hZ : zK x D s) (hA : ∀ q, s.heap.size ≤ q → A q) (hc : 120 ≤ R.cells) (hsl : 1976065 ≤ R.slots) {rest : va_W} {f : Nat → Value} {H : Heap} {locs : List Loc} {ls : Array Slot} (hP : va_P D vwCl ((h0, .inr (12, zf 212 f)) :: rest) H) (hD : va_D A ((h0, .inr (12, zf 212 f)) :: rest)) (hS : va_S A s.heap H locs) (hl : lv_has ls 2 [(0, .ref h0)])
    (kk : ∀ (f' : Nat → Value) (q_1 q_5 q_9 q_13 q_17 q_21 q_25 q_29 q_33 q_37 : Nat) (H : Heap) (locs : List Loc), f' 144 = .ref q_1 → f' 145 = .ref q_5 → f' 147 = .ref q_9 → f' 148 = .ref q_13 → f' 149 = .ref q_17 → f' 150 = .ref q_21 → f' 151 = .ref q_25 → f' 152 = .ref q_29 → f' 153 = .ref q_33 → f' 154 = .ref q_37 → (∀ j, (∀ k ∈ [144, 145, 147, 148, 149, 150, 151, 152, 153, 154], j ≠ k) → f' j = f j) → va_P D vwCl ((h0, .inr (12, zf 212 f')) :: (rest ++ [(q_1, .inl (x 0, 186, .inl (fun _ => 0))), (q_5, .inl (x 1, 46872, .inl (fun _ => 0))), (q_9, .inl (x 0, 8, .inl (fun _ => 0))), (q_13, .inl (x 0, 240, .inl (fun _ => 0))), (q_17, .inl (x 2, 240, .inr (.inl (fun _ => 0)))), (q_21, .inl (x 0, 240, .inl (fun _ => 0))), (q_25, .inl (x 2, 240, .inr (.inl (fun _ => 0)))), (q_29, .inl (x 0, 240, .inl (fun _ => 0))), (q_33, .inl (x 2, 240, .inr (.inl (fun _ => 0)))), (q_37, .inl (x 0, 240, .inl (fun _ => 0)))])) H → va_D A ((h0, .inr (12, zf 212 f')) :: (rest ++ [(q_1, .inl (x 0, 186, .inl (fun _ => 0))), (q_5, .inl (x 1, 46872, .inl (fun _ => 0))), (q_9, .inl (x 0, 8, .inl (fun _ => 0))), (q_13, .inl (x 0, 240, .inl (fun _ => 0))), (q_17, .inl (x 2, 240, .inr (.inl (fun _ => 0)))), (q_21, .inl (x 0, 240, .inl (fun _ => 0))), (q_25, .inl (x 2, 240, .inr (.inl (fun _ => 0)))), (q_29, .inl (x 0, 240, .inl (fun _ => 0))), (q_33, .inl (x 2, 240, .inr (.inl (fun _ => 0)))), (q_37, .inl (x 0, 240, .inl (fun _ => 0)))])) → va_S A s.heap H locs → lv_has ls 2 [(0, .ref h0)] → W p l e R s m args below meth c H locs 120 1976065 Q (F0 m 1029 ls [])) :
    W p l e R s m args below meth c H locs 110 1927319 Q (F0 m 940 ls []) := by
  have hK := hZ.1
  refine lv_aload_n hx hb dX12_init_940 rfl (lv_at hl 0 rfl) ?_
  refine lv_sipush (v := 186) hx hb dX12_init_941 (by decide) ?_
  refine z_newa (atype := .int) (ty := .int) (a0 := (186, .inl (fun _ => 0))) hx hb (hts _ (zm_2 _)) rfl hK 0 rfl hP hD hS hA (fun cA => rfl) (by decide) (by decide) (by decide) (Nat.le_trans (Nat.le_of_ble_eq_true rfl) hc) (Nat.le_trans (Nat.le_of_ble_eq_true rfl) hsl) dX12_init_944 (fun q_1 H hP hD hS => ?_)
  rw [List.cons_append] at hP hD
  refine W.widen (k := 111) (n := 1927505) (Nat.le_of_ble_eq_true rfl) (Nat.le_of_ble_eq_true rfl) ?_
  refine y_putF (T := TX12) (N := 212) (ci := 12) hx hb hts (zi_12 _) hown hK hP hD hS 0 rfl rfl 144 (by decide) tX12_144 uX12_144 (hts _ (zm_582 _)) rfl hin rfl rfl rfl dX12_init_946 (fun H locs f_2 ek_3 ok_4 hP hD hS => ?_)
  rw [List.set_cons_zero] at hP hD
  refine lv_aload_n hx hb dX12_init_949 rfl (lv_at hl 0 rfl) ?_
  refine lv_ldcw hx hb hown (hts _ (zm_583 _)) dX12_init_950 ?_
  refine z_newa (atype := .byte) (ty := .byte) (a0 := (46872, .inl (fun _ => 0))) hx hb (hts _ (zm_3 _)) rfl hK 1 rfl hP hD hS hA (fun cA => rfl) (by decide) (by decide) (by decide) (Nat.le_trans (Nat.le_of_ble_eq_true rfl) hc) (Nat.le_trans (Nat.le_of_ble_eq_true rfl) hsl) dX12_init_953 (fun q_5 H hP hD hS => ?_)
  rw [List.cons_append] at hP hD
  refine W.widen (k := 112) (n := 1974377) (Nat.le_of_ble_eq_true rfl) (Nat.le_of_ble_eq_true rfl) ?_
  refine y_putF (T := TX12) (N := 212) (ci := 12) hx hb hts (zi_12 _) hown hK hP hD hS 0 rfl rfl 145 (by decide) tX12_145 uX12_145 (hts _ (zm_584 _)) rfl hin rfl rfl rfl dX12_init_955 (fun H locs f_6 ek_7 ok_8 hP hD hS => ?_)
  rw [List.set_cons_zero] at hP hD
  refine lv_aload_n hx hb dX12_init_958 rfl (lv_at hl 0 rfl) ?_
  refine lv_bipush (v := 8) hx hb dX12_init_959 (by decide) ?_
  refine z_newa (atype := .int) (ty := .int) (a0 := (8, .inl (fun _ => 0))) hx hb (hts _ (zm_2 _)) rfl hK 0 rfl hP hD hS hA (fun cA => rfl) (by decide) (by decide) (by decide) (Nat.le_trans (Nat.le_of_ble_eq_true rfl) hc) (Nat.le_trans (Nat.le_of_ble_eq_true rfl) hsl) dX12_init_961 (fun q_9 H hP hD hS => ?_)
  rw [List.cons_append] at hP hD
  refine W.widen (k := 113) (n := 1974385) (Nat.le_of_ble_eq_true rfl) (Nat.le_of_ble_eq_true rfl) ?_
  refine y_putF (T := TX12) (N := 212) (ci := 12) hx hb hts (zi_12 _) hown hK hP hD hS 0 rfl rfl 147 (by decide) tX12_147 uX12_147 (hts _ (zm_585 _)) rfl hin rfl rfl rfl dX12_init_963 (fun H locs f_10 ek_11 ok_12 hP hD hS => ?_)
  rw [List.set_cons_zero] at hP hD
  refine lv_aload_n hx hb dX12_init_966 rfl (lv_at hl 0 rfl) ?_
  refine lv_sipush (v := 240) hx hb dX12_init_967 (by decide) ?_
  refine z_newa (atype := .int) (ty := .int) (a0 := (240, .inl (fun _ => 0))) hx hb (hts _ (zm_2 _)) rfl hK 0 rfl hP hD hS hA (fun cA => rfl) (by decide) (by decide) (by decide) (Nat.le_trans (Nat.le_of_ble_eq_true rfl) hc) (Nat.le_trans (Nat.le_of_ble_eq_true rfl) hsl) dX12_init_970 (fun q_13 H hP hD hS => ?_)
  rw [List.cons_append] at hP hD
  refine W.widen (k := 114) (n := 1974625) (Nat.le_of_ble_eq_true rfl) (Nat.le_of_ble_eq_true rfl) ?_
  refine y_putF (T := TX12) (N := 212) (ci := 12) hx hb hts (zi_12 _) hown hK hP hD hS 0 rfl rfl 148 (by decide) tX12_148 uX12_148 (hts _ (zm_586 _)) rfl hin rfl rfl rfl dX12_init_972 (fun H locs f_14 ek_15 ok_16 hP hD hS => ?_)
  rw [List.set_cons_zero] at hP hD
  refine lv_aload_n hx hb dX12_init_975 rfl (lv_at hl 0 rfl) ?_
  refine lv_sipush (v := 240) hx hb dX12_init_976 (by decide) ?_
  refine z_newa (atype := .long) (ty := .long) (a0 := (240, .inr (.inl (fun _ => 0)))) hx hb (hts _ (zm_4 _)) rfl hK 2 rfl hP hD hS hA (fun cA => rfl) (by decide) (by decide) (by decide) (Nat.le_trans (Nat.le_of_ble_eq_true rfl) hc) (Nat.le_trans (Nat.le_of_ble_eq_true rfl) hsl) dX12_init_979 (fun q_17 H hP hD hS => ?_)
  rw [List.cons_append] at hP hD
  refine W.widen (k := 115) (n := 1974865) (Nat.le_of_ble_eq_true rfl) (Nat.le_of_ble_eq_true rfl) ?_
  refine y_putF (T := TX12) (N := 212) (ci := 12) hx hb hts (zi_12 _) hown hK hP hD hS 0 rfl rfl 149 (by decide) tX12_149 uX12_149 (hts _ (zm_587 _)) rfl hin rfl rfl rfl dX12_init_981 (fun H locs f_18 ek_19 ok_20 hP hD hS => ?_)
  rw [List.set_cons_zero] at hP hD
  refine lv_aload_n hx hb dX12_init_984 rfl (lv_at hl 0 rfl) ?_
  refine lv_sipush (v := 240) hx hb dX12_init_985 (by decide) ?_
  refine z_newa (atype := .int) (ty := .int) (a0 := (240, .inl (fun _ => 0))) hx hb (hts _ (zm_2 _)) rfl hK 0 rfl hP hD hS hA (fun cA => rfl) (by decide) (by decide) (by decide) (Nat.le_trans (Nat.le_of_ble_eq_true rfl) hc) (Nat.le_trans (Nat.le_of_ble_eq_true rfl) hsl) dX12_init_988 (fun q_21 H hP hD hS => ?_)
  rw [List.cons_append] at hP hD
  refine W.widen (k := 116) (n := 1975105) (Nat.le_of_ble_eq_true rfl) (Nat.le_of_ble_eq_true rfl) ?_
  refine y_putF (T := TX12) (N := 212) (ci := 12) hx hb hts (zi_12 _) hown hK hP hD hS 0 rfl rfl 150 (by decide) tX12_150 uX12_150 (hts _ (zm_588 _)) rfl hin rfl rfl rfl dX12_init_990 (fun H locs f_22 ek_23 ok_24 hP hD hS => ?_)
  rw [List.set_cons_zero] at hP hD
  refine lv_aload_n hx hb dX12_init_993 rfl (lv_at hl 0 rfl) ?_
  refine lv_sipush (v := 240) hx hb dX12_init_994 (by decide) ?_
  refine z_newa (atype := .long) (ty := .long) (a0 := (240, .inr (.inl (fun _ => 0)))) hx hb (hts _ (zm_4 _)) rfl hK 2 rfl hP hD hS hA (fun cA => rfl) (by decide) (by decide) (by decide) (Nat.le_trans (Nat.le_of_ble_eq_true rfl) hc) (Nat.le_trans (Nat.le_of_ble_eq_true rfl) hsl) dX12_init_997 (fun q_25 H hP hD hS => ?_)
  rw [List.cons_append] at hP hD
  refine W.widen (k := 117) (n := 1975345) (Nat.le_of_ble_eq_true rfl) (Nat.le_of_ble_eq_true rfl) ?_
  refine y_putF (T := TX12) (N := 212) (ci := 12) hx hb hts (zi_12 _) hown hK hP hD hS 0 rfl rfl 151 (by decide) tX12_151 uX12_151 (hts _ (zm_589 _)) rfl hin rfl rfl rfl dX12_init_999 (fun H locs f_26 ek_27 ok_28 hP hD hS => ?_)
  rw [List.set_cons_zero] at hP hD
  refine lv_aload_n hx hb dX12_init_1002 rfl (lv_at hl 0 rfl) ?_
  refine lv_sipush (v := 240) hx hb dX12_init_1003 (by decide) ?_
  refine z_newa (atype := .int) (ty := .int) (a0 := (240, .inl (fun _ => 0))) hx hb (hts _ (zm_2 _)) rfl hK 0 rfl hP hD hS hA (fun cA => rfl) (by decide) (by decide) (by decide) (Nat.le_trans (Nat.le_of_ble_eq_true rfl) hc) (Nat.le_trans (Nat.le_of_ble_eq_true rfl) hsl) dX12_init_1006 (fun q_29 H hP hD hS => ?_)
  rw [List.cons_append] at hP hD
  refine W.widen (k := 118) (n := 1975585) (Nat.le_of_ble_eq_true rfl) (Nat.le_of_ble_eq_true rfl) ?_
  refine y_putF (T := TX12) (N := 212) (ci := 12) hx hb hts (zi_12 _) hown hK hP hD hS 0 rfl rfl 152 (by decide) tX12_152 uX12_152 (hts _ (zm_590 _)) rfl hin rfl rfl rfl dX12_init_1008 (fun H locs f_30 ek_31 ok_32 hP hD hS => ?_)
  rw [List.set_cons_zero] at hP hD
  refine lv_aload_n hx hb dX12_init_1011 rfl (lv_at hl 0 rfl) ?_
  refine lv_sipush (v := 240) hx hb dX12_init_1012 (by decide) ?_
  refine z_newa (atype := .long) (ty := .long) (a0 := (240, .inr (.inl (fun _ => 0)))) hx hb (hts _ (zm_4 _)) rfl hK 2 rfl hP hD hS hA (fun cA => rfl) (by decide) (by decide) (by decide) (Nat.le_trans (Nat.le_of_ble_eq_true rfl) hc) (Nat.le_trans (Nat.le_of_ble_eq_true rfl) hsl) dX12_init_1015 (fun q_33 H hP hD hS => ?_)
  rw [List.cons_append] at hP hD
  refine W.widen (k := 119) (n := 1975825) (Nat.le_of_ble_eq_true rfl) (Nat.le_of_ble_eq_true rfl) ?_
  refine y_putF (T := TX12) (N := 212) (ci := 12) hx hb hts (zi_12 _) hown hK hP hD hS 0 rfl rfl 153 (by decide) tX12_153 uX12_153 (hts _ (zm_591 _)) rfl hin rfl rfl rfl dX12_init_1017 (fun H locs f_34 ek_35 ok_36 hP hD hS => ?_)
  rw [List.set_cons_zero] at hP hD
  refine lv_aload_n hx hb dX12_init_1020 rfl (lv_at hl 0 rfl) ?_
  refine lv_sipush (v := 240) hx hb dX12_init_1021 (by decide) ?_
  refine z_newa (atype := .int) (ty := .int) (a0 := (240, .inl (fun _ => 0))) hx hb (hts _ (zm_2 _)) rfl hK 0 rfl hP hD hS hA (fun cA => rfl) (by decide) (by decide) (by decide) (Nat.le_trans (Nat.le_of_ble_eq_true rfl) hc) (Nat.le_trans (Nat.le_of_ble_eq_true rfl) hsl) dX12_init_1024 (fun q_37 H hP hD hS => ?_)
  rw [List.cons_append] at hP hD
  refine W.widen (k := 120) (n := 1976065) (Nat.le_of_ble_eq_true rfl) (Nat.le_of_ble_eq_true rfl) ?_
  refine y_putF (T := TX12) (N := 212) (ci := 12) hx hb hts (zi_12 _) hown hK hP hD hS 0 rfl rfl 154 (by decide) tX12_154 uX12_154 (hts _ (zm_592 _)) rfl hin rfl rfl rfl dX12_init_1026 (fun H locs f_38 ek_39 ok_40 hP hD hS => ?_)
  rw [List.set_cons_zero] at hP hD
  simp only [List.append_assoc, List.cons_append, List.nil_append] at hP hD
  exact kk f_38 q_1 q_5 q_9 q_13 q_17 q_21 q_25 q_29 q_33 q_37 H locs ((ok_40 144 (by decide)).trans ((ok_36 144 (by decide)).trans ((ok_32 144 (by decide)).trans ((ok_28 144 (by decide)).trans ((ok_24 144 (by decide)).trans ((ok_20 144 (by decide)).trans ((ok_16 144 (by decide)).trans ((ok_12 144 (by decide)).trans ((ok_8 144 (by decide)).trans ek_3))))))))) ((ok_40 145 (by decide)).trans ((ok_36 145 (by decide)).trans ((ok_32 145 (by decide)).trans ((ok_28 145 (by decide)).trans ((ok_24 145 (by decide)).trans ((ok_20 145 (by decide)).trans ((ok_16 145 (by decide)).trans ((ok_12 145 (by decide)).trans ek_7)))))))) ((ok_40 147 (by decide)).trans ((ok_36 147 (by decide)).trans ((ok_32 147 (by decide)).trans ((ok_28 147 (by decide)).trans ((ok_24 147 (by decide)).trans ((ok_20 147 (by decide)).trans ((ok_16 147 (by decide)).trans ek_11))))))) ((ok_40 148 (by decide)).trans ((ok_36 148 (by decide)).trans ((ok_32 148 (by decide)).trans ((ok_28 148 (by decide)).trans ((ok_24 148 (by decide)).trans ((ok_20 148 (by decide)).trans ek_15)))))) ((ok_40 149 (by decide)).trans ((ok_36 149 (by decide)).trans ((ok_32 149 (by decide)).trans ((ok_28 149 (by decide)).trans ((ok_24 149 (by decide)).trans ek_19))))) ((ok_40 150 (by decide)).trans ((ok_36 150 (by decide)).trans ((ok_32 150 (by decide)).trans ((ok_28 150 (by decide)).trans ek_23)))) ((ok_40 151 (by decide)).trans ((ok_36 151 (by decide)).trans ((ok_32 151 (by decide)).trans ek_27))) ((ok_40 152 (by decide)).trans ((ok_36 152 (by decide)).trans ek_31)) ((ok_40 153 (by decide)).trans ek_35) ek_39 (fun j hj => ((ok_40 j (hj 154 (by decide))).trans ((ok_36 j (hj 153 (by decide))).trans ((ok_32 j (hj 152 (by decide))).trans ((ok_28 j (hj 151 (by decide))).trans ((ok_24 j (hj 150 (by decide))).trans ((ok_20 j (hj 149 (by decide))).trans ((ok_16 j (hj 148 (by decide))).trans ((ok_12 j (hj 147 (by decide))).trans ((ok_8 j (hj 145 (by decide))).trans ((ok_4 j (hj 144 (by decide))).trans rfl))))))))))) hP hD hS hl
