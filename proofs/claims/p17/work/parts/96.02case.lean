theorem dL_law_736 : decode cL_law 736 = .ok (.aload_n 1, 1) := by decide +kernel
theorem dL_law_737 : decode cL_law 737 = .ok (.aload_n 0, 1) := by decide +kernel
theorem dL_law_738 : decode cL_law 738 = .ok (.iload 4, 2) := by decide +kernel
theorem dL_law_740 : decode cL_law 740 = .ok (.iconst 1, 1) := by decide +kernel
theorem dL_law_741 : decode cL_law 741 = .ok (.iadd, 1) := by decide +kernel
theorem dL_law_742 : decode cL_law 742 = .ok (.iaload, 1) := by decide +kernel
theorem dL_law_743 : decode cL_law 743 = .ok (.aload_n 0, 1) := by decide +kernel
theorem dL_law_744 : decode cL_law 744 = .ok (.iload 4, 2) := by decide +kernel
theorem dL_law_746 : decode cL_law 746 = .ok (.iconst 2, 1) := by decide +kernel
theorem dL_law_747 : decode cL_law 747 = .ok (.iadd, 1) := by decide +kernel
theorem dL_law_748 : decode cL_law 748 = .ok (.iaload, 1) := by decide +kernel
theorem dL_law_749 : decode cL_law 749 = .ok (.aload_n 3, 1) := by decide +kernel
theorem dL_law_750 : decode cL_law 750 = .ok (.invokestatic 135, 3) := by decide +kernel
theorem dL_law_753 : decode cL_law 753 = .ok (.istore 5, 2) := by decide +kernel
theorem dL_law_755 : decode cL_law 755 = .ok (.aload_n 2, 1) := by decide +kernel
theorem dL_law_756 : decode cL_law 756 = .ok (.aload_n 0, 1) := by decide +kernel
theorem dL_law_757 : decode cL_law 757 = .ok (.iload 4, 2) := by decide +kernel
theorem dL_law_759 : decode cL_law 759 = .ok (.iconst 1, 1) := by decide +kernel
theorem dL_law_760 : decode cL_law 760 = .ok (.iadd, 1) := by decide +kernel
theorem dL_law_761 : decode cL_law 761 = .ok (.iaload, 1) := by decide +kernel
theorem dL_law_762 : decode cL_law 762 = .ok (.aload_n 0, 1) := by decide +kernel
theorem dL_law_763 : decode cL_law 763 = .ok (.iload 4, 2) := by decide +kernel
theorem dL_law_765 : decode cL_law 765 = .ok (.iconst 2, 1) := by decide +kernel
theorem dL_law_766 : decode cL_law 766 = .ok (.iadd, 1) := by decide +kernel
theorem dL_law_767 : decode cL_law 767 = .ok (.iaload, 1) := by decide +kernel
theorem dL_law_768 : decode cL_law 768 = .ok (.invokevirtual 138, 3) := by decide +kernel
theorem dL_law_771 : decode cL_law 771 = .ok (.istore 6, 2) := by decide +kernel
theorem dL_law_773 : decode cL_law 773 = .ok (.goto 815, 3) := by decide +kernel
theorem dL_law_776 : decode cL_law 776 = .ok (.aload_n 1, 1) := by decide +kernel
theorem dL_law_777 : decode cL_law 777 = .ok (.aload_n 0, 1) := by decide +kernel
theorem dL_law_778 : decode cL_law 778 = .ok (.iload 4, 2) := by decide +kernel
theorem dL_law_780 : decode cL_law 780 = .ok (.iconst 1, 1) := by decide +kernel
theorem dL_law_781 : decode cL_law 781 = .ok (.iadd, 1) := by decide +kernel
theorem dL_law_782 : decode cL_law 782 = .ok (.iaload, 1) := by decide +kernel
theorem dL_law_783 : decode cL_law 783 = .ok (.aload_n 0, 1) := by decide +kernel
theorem dL_law_784 : decode cL_law 784 = .ok (.iload 4, 2) := by decide +kernel
theorem dL_law_786 : decode cL_law 786 = .ok (.iconst 2, 1) := by decide +kernel
theorem dL_law_787 : decode cL_law 787 = .ok (.iadd, 1) := by decide +kernel
theorem dL_law_788 : decode cL_law 788 = .ok (.iaload, 1) := by decide +kernel
theorem dL_law_789 : decode cL_law 789 = .ok (.aload_n 3, 1) := by decide +kernel
theorem dL_law_790 : decode cL_law 790 = .ok (.invokestatic 139, 3) := by decide +kernel
theorem dL_law_793 : decode cL_law 793 = .ok (.istore 5, 2) := by decide +kernel
theorem dL_law_795 : decode cL_law 795 = .ok (.aload_n 2, 1) := by decide +kernel
theorem dL_law_796 : decode cL_law 796 = .ok (.aload_n 0, 1) := by decide +kernel
theorem dL_law_797 : decode cL_law 797 = .ok (.iload 4, 2) := by decide +kernel
theorem dL_law_799 : decode cL_law 799 = .ok (.iconst 1, 1) := by decide +kernel
theorem dL_law_800 : decode cL_law 800 = .ok (.iadd, 1) := by decide +kernel
theorem dL_law_801 : decode cL_law 801 = .ok (.iaload, 1) := by decide +kernel
theorem dL_law_802 : decode cL_law 802 = .ok (.aload_n 0, 1) := by decide +kernel
theorem dL_law_803 : decode cL_law 803 = .ok (.iload 4, 2) := by decide +kernel
theorem dL_law_805 : decode cL_law 805 = .ok (.iconst 2, 1) := by decide +kernel
theorem dL_law_806 : decode cL_law 806 = .ok (.iadd, 1) := by decide +kernel
theorem dL_law_807 : decode cL_law 807 = .ok (.iaload, 1) := by decide +kernel
theorem dL_law_808 : decode cL_law 808 = .ok (.invokevirtual 141, 3) := by decide +kernel
theorem dL_law_811 : decode cL_law 811 = .ok (.istore 6, 2) := by decide +kernel
theorem dL_law_813 : decode cL_law 813 = .ok (.goto 775, 3) := by decide +kernel
theorem dL_law_816 : decode cL_law 816 = .ok (.aload_n 1, 1) := by decide +kernel
theorem dL_law_817 : decode cL_law 817 = .ok (.aload_n 0, 1) := by decide +kernel
theorem dL_law_818 : decode cL_law 818 = .ok (.iload 4, 2) := by decide +kernel
theorem dL_law_820 : decode cL_law 820 = .ok (.iconst 1, 1) := by decide +kernel
theorem dL_law_821 : decode cL_law 821 = .ok (.iadd, 1) := by decide +kernel
theorem dL_law_822 : decode cL_law 822 = .ok (.iaload, 1) := by decide +kernel
theorem dL_law_823 : decode cL_law 823 = .ok (.aload_n 0, 1) := by decide +kernel
theorem dL_law_824 : decode cL_law 824 = .ok (.iload 4, 2) := by decide +kernel
theorem dL_law_826 : decode cL_law 826 = .ok (.iconst 2, 1) := by decide +kernel
theorem dL_law_827 : decode cL_law 827 = .ok (.iadd, 1) := by decide +kernel
theorem dL_law_828 : decode cL_law 828 = .ok (.iaload, 1) := by decide +kernel
theorem dL_law_829 : decode cL_law 829 = .ok (.aload_n 0, 1) := by decide +kernel
theorem dL_law_830 : decode cL_law 830 = .ok (.iload 4, 2) := by decide +kernel
theorem dL_law_832 : decode cL_law 832 = .ok (.iconst 3, 1) := by decide +kernel
theorem dL_law_833 : decode cL_law 833 = .ok (.iadd, 1) := by decide +kernel
theorem dL_law_834 : decode cL_law 834 = .ok (.iaload, 1) := by decide +kernel
theorem dL_law_835 : decode cL_law 835 = .ok (.i2l, 1) := by decide +kernel
theorem dL_law_836 : decode cL_law 836 = .ok (.bipush 32, 2) := by decide +kernel
theorem dL_law_838 : decode cL_law 838 = .ok (.lshl, 1) := by decide +kernel
theorem dL_law_839 : decode cL_law 839 = .ok (.aload_n 0, 1) := by decide +kernel
theorem dL_law_840 : decode cL_law 840 = .ok (.iload 4, 2) := by decide +kernel
theorem dL_law_842 : decode cL_law 842 = .ok (.iconst 4, 1) := by decide +kernel
theorem dL_law_843 : decode cL_law 843 = .ok (.iadd, 1) := by decide +kernel
theorem dL_law_844 : decode cL_law 844 = .ok (.iaload, 1) := by decide +kernel
theorem dL_law_845 : decode cL_law 845 = .ok (.i2l, 1) := by decide +kernel
theorem dL_law_846 : decode cL_law 846 = .ok (.ldc2_w 100, 3) := by decide +kernel
theorem dL_law_849 : decode cL_law 849 = .ok (.land, 1) := by decide +kernel
theorem dL_law_850 : decode cL_law 850 = .ok (.lor, 1) := by decide +kernel
theorem dL_law_851 : decode cL_law 851 = .ok (.aload_n 3, 1) := by decide +kernel
theorem dL_law_852 : decode cL_law 852 = .ok (.invokestatic 142, 3) := by decide +kernel
theorem dL_law_855 : decode cL_law 855 = .ok (.istore 5, 2) := by decide +kernel
theorem dL_law_857 : decode cL_law 857 = .ok (.aload_n 2, 1) := by decide +kernel
theorem dL_law_858 : decode cL_law 858 = .ok (.aload_n 0, 1) := by decide +kernel
theorem dL_law_859 : decode cL_law 859 = .ok (.iload 4, 2) := by decide +kernel
theorem dL_law_861 : decode cL_law 861 = .ok (.iconst 1, 1) := by decide +kernel
theorem dL_law_862 : decode cL_law 862 = .ok (.iadd, 1) := by decide +kernel
theorem dL_law_863 : decode cL_law 863 = .ok (.iaload, 1) := by decide +kernel
theorem dL_law_864 : decode cL_law 864 = .ok (.aload_n 0, 1) := by decide +kernel
theorem dL_law_865 : decode cL_law 865 = .ok (.iload 4, 2) := by decide +kernel
theorem dL_law_867 : decode cL_law 867 = .ok (.iconst 2, 1) := by decide +kernel
theorem dL_law_868 : decode cL_law 868 = .ok (.iadd, 1) := by decide +kernel
theorem dL_law_869 : decode cL_law 869 = .ok (.iaload, 1) := by decide +kernel
theorem dL_law_870 : decode cL_law 870 = .ok (.aload_n 0, 1) := by decide +kernel
theorem dL_law_871 : decode cL_law 871 = .ok (.iload 4, 2) := by decide +kernel
theorem dL_law_873 : decode cL_law 873 = .ok (.iconst 3, 1) := by decide +kernel
theorem dL_law_874 : decode cL_law 874 = .ok (.iadd, 1) := by decide +kernel
theorem dL_law_875 : decode cL_law 875 = .ok (.iaload, 1) := by decide +kernel
theorem dL_law_876 : decode cL_law 876 = .ok (.i2l, 1) := by decide +kernel
theorem dL_law_877 : decode cL_law 877 = .ok (.bipush 32, 2) := by decide +kernel
theorem dL_law_879 : decode cL_law 879 = .ok (.lshl, 1) := by decide +kernel
theorem dL_law_880 : decode cL_law 880 = .ok (.aload_n 0, 1) := by decide +kernel
theorem dL_law_881 : decode cL_law 881 = .ok (.iload 4, 2) := by decide +kernel
theorem dL_law_883 : decode cL_law 883 = .ok (.iconst 4, 1) := by decide +kernel
theorem dL_law_884 : decode cL_law 884 = .ok (.iadd, 1) := by decide +kernel
theorem dL_law_885 : decode cL_law 885 = .ok (.iaload, 1) := by decide +kernel
theorem dL_law_886 : decode cL_law 886 = .ok (.i2l, 1) := by decide +kernel
theorem dL_law_887 : decode cL_law 887 = .ok (.ldc2_w 100, 3) := by decide +kernel
theorem dL_law_890 : decode cL_law 890 = .ok (.land, 1) := by decide +kernel
theorem dL_law_891 : decode cL_law 891 = .ok (.lor, 1) := by decide +kernel
theorem dL_law_892 : decode cL_law 892 = .ok (.invokevirtual 144, 3) := by decide +kernel
theorem dL_law_895 : decode cL_law 895 = .ok (.istore 6, 2) := by decide +kernel
theorem dL_law_897 : decode cL_law 897 = .ok (.goto 691, 3) := by decide +kernel
theorem dL_law_900 : decode cL_law 900 = .ok (.aload_n 1, 1) := by decide +kernel
theorem dL_law_901 : decode cL_law 901 = .ok (.aload_n 0, 1) := by decide +kernel
theorem dL_law_902 : decode cL_law 902 = .ok (.iload 4, 2) := by decide +kernel
theorem dL_law_904 : decode cL_law 904 = .ok (.iconst 1, 1) := by decide +kernel
theorem dL_law_905 : decode cL_law 905 = .ok (.iadd, 1) := by decide +kernel
theorem dL_law_906 : decode cL_law 906 = .ok (.iaload, 1) := by decide +kernel
theorem dL_law_907 : decode cL_law 907 = .ok (.aload_n 0, 1) := by decide +kernel
theorem dL_law_908 : decode cL_law 908 = .ok (.iload 4, 2) := by decide +kernel
theorem dL_law_910 : decode cL_law 910 = .ok (.iconst 2, 1) := by decide +kernel
theorem dL_law_911 : decode cL_law 911 = .ok (.iadd, 1) := by decide +kernel
theorem dL_law_912 : decode cL_law 912 = .ok (.iaload, 1) := by decide +kernel
theorem dL_law_913 : decode cL_law 913 = .ok (.aload_n 0, 1) := by decide +kernel
theorem dL_law_914 : decode cL_law 914 = .ok (.iload 4, 2) := by decide +kernel
theorem dL_law_916 : decode cL_law 916 = .ok (.iconst 3, 1) := by decide +kernel
theorem dL_law_917 : decode cL_law 917 = .ok (.iadd, 1) := by decide +kernel
theorem dL_law_918 : decode cL_law 918 = .ok (.iaload, 1) := by decide +kernel
theorem dL_law_919 : decode cL_law 919 = .ok (.i2l, 1) := by decide +kernel
theorem dL_law_920 : decode cL_law 920 = .ok (.bipush 32, 2) := by decide +kernel
theorem dL_law_922 : decode cL_law 922 = .ok (.lshl, 1) := by decide +kernel
theorem dL_law_923 : decode cL_law 923 = .ok (.aload_n 0, 1) := by decide +kernel
theorem dL_law_924 : decode cL_law 924 = .ok (.iload 4, 2) := by decide +kernel
theorem dL_law_926 : decode cL_law 926 = .ok (.iconst 4, 1) := by decide +kernel
theorem dL_law_927 : decode cL_law 927 = .ok (.iadd, 1) := by decide +kernel
theorem dL_law_928 : decode cL_law 928 = .ok (.iaload, 1) := by decide +kernel
theorem dL_law_929 : decode cL_law 929 = .ok (.i2l, 1) := by decide +kernel
theorem dL_law_930 : decode cL_law 930 = .ok (.ldc2_w 100, 3) := by decide +kernel
theorem dL_law_933 : decode cL_law 933 = .ok (.land, 1) := by decide +kernel
theorem dL_law_934 : decode cL_law 934 = .ok (.lor, 1) := by decide +kernel
theorem dL_law_935 : decode cL_law 935 = .ok (.aload_n 3, 1) := by decide +kernel
theorem dL_law_936 : decode cL_law 936 = .ok (.invokestatic 145, 3) := by decide +kernel
theorem dL_law_939 : decode cL_law 939 = .ok (.istore 5, 2) := by decide +kernel
theorem dL_law_941 : decode cL_law 941 = .ok (.aload_n 2, 1) := by decide +kernel
theorem dL_law_942 : decode cL_law 942 = .ok (.aload_n 0, 1) := by decide +kernel
theorem dL_law_943 : decode cL_law 943 = .ok (.iload 4, 2) := by decide +kernel
theorem dL_law_945 : decode cL_law 945 = .ok (.iconst 1, 1) := by decide +kernel
theorem dL_law_946 : decode cL_law 946 = .ok (.iadd, 1) := by decide +kernel
theorem dL_law_947 : decode cL_law 947 = .ok (.iaload, 1) := by decide +kernel
theorem dL_law_948 : decode cL_law 948 = .ok (.aload_n 0, 1) := by decide +kernel
theorem dL_law_949 : decode cL_law 949 = .ok (.iload 4, 2) := by decide +kernel
theorem dL_law_951 : decode cL_law 951 = .ok (.iconst 2, 1) := by decide +kernel
theorem dL_law_952 : decode cL_law 952 = .ok (.iadd, 1) := by decide +kernel
theorem dL_law_953 : decode cL_law 953 = .ok (.iaload, 1) := by decide +kernel
theorem dL_law_954 : decode cL_law 954 = .ok (.aload_n 0, 1) := by decide +kernel
theorem dL_law_955 : decode cL_law 955 = .ok (.iload 4, 2) := by decide +kernel
theorem dL_law_957 : decode cL_law 957 = .ok (.iconst 3, 1) := by decide +kernel
theorem dL_law_958 : decode cL_law 958 = .ok (.iadd, 1) := by decide +kernel
theorem dL_law_959 : decode cL_law 959 = .ok (.iaload, 1) := by decide +kernel
theorem dL_law_960 : decode cL_law 960 = .ok (.i2l, 1) := by decide +kernel
theorem dL_law_961 : decode cL_law 961 = .ok (.bipush 32, 2) := by decide +kernel
theorem dL_law_963 : decode cL_law 963 = .ok (.lshl, 1) := by decide +kernel
theorem dL_law_964 : decode cL_law 964 = .ok (.aload_n 0, 1) := by decide +kernel
theorem dL_law_965 : decode cL_law 965 = .ok (.iload 4, 2) := by decide +kernel
theorem dL_law_967 : decode cL_law 967 = .ok (.iconst 4, 1) := by decide +kernel
theorem dL_law_968 : decode cL_law 968 = .ok (.iadd, 1) := by decide +kernel
theorem dL_law_969 : decode cL_law 969 = .ok (.iaload, 1) := by decide +kernel
theorem dL_law_970 : decode cL_law 970 = .ok (.i2l, 1) := by decide +kernel
theorem dL_law_971 : decode cL_law 971 = .ok (.ldc2_w 100, 3) := by decide +kernel
theorem dL_law_974 : decode cL_law 974 = .ok (.land, 1) := by decide +kernel
theorem dL_law_975 : decode cL_law 975 = .ok (.lor, 1) := by decide +kernel
theorem dL_law_976 : decode cL_law 976 = .ok (.invokevirtual 147, 3) := by decide +kernel
theorem dL_law_979 : decode cL_law 979 = .ok (.istore 6, 2) := by decide +kernel
theorem dL_law_981 : decode cL_law 981 = .ok (.goto 607, 3) := by decide +kernel
set_option maxHeartbeats 4000000 in
set_option maxRecDepth 100000 in
theorem law_case_8 {p : Program} {l : Launch} {e : Env} {s : State} {m : MethodId} {below : List Frame} {meth : Method} {c : Code} {b L : Nat} {xs : Nat → Int32} {dC : Nat → ClassId} {dI : Nat → Nat → Nat} {h0 g0 ho : Nat} {a : Nat → Nat} {ca : Nat → ClassId} {co : ClassId} (hl0 : l.stackTraces = false) (hF : LFix p s m meth c b L xs dC dI ca co) {i cl sl : Nat} (hi : i + 6 ≤ L) (hC : cl + 10 ≤ room_1.cells) (hSl : sl + 2100 ≤ room_1.slots) (go : LGo p l e s m below meth c b dC dI h0 g0 ho a ca co i 1588 (cl + 10) (sl + 2100)) : LGo p l e s m below meth c b dC dI h0 g0 ho a ca co i 736 cl sl := by
  obtain ⟨C0, hG, hN, hZ, hKm, hO, hL⟩ := hF
  obtain ⟨hx, hb, hr, hml, hown, hts, hX, hbl, hlocks, hgv⟩ := C0
  have hA : ∀ q : Nat, s.heap.size ≤ q → lA s q := fun _ h => h
  have hbA : ¬ lA s b := Nat.not_le.mpr hbl
  intro sh rk ci ai al f v w fi fl nn mm uu H locs ls hXI hRI hK hP hD hS hl
  obtain ⟨x1, ex1⟩ : ∃ x, xs (nI i + nI 1).toNatClampNeg = x := ⟨_, rfl⟩
  obtain ⟨x2, ex2⟩ : ∃ x, xs (nI i + nI 2).toNatClampNeg = x := ⟨_, rfl⟩
  refine lv_aload_n hx hb dL_law_736 rfl (lv_at hl 3 rfl) ?_
  refine lv_aload_n hx hb dL_law_737 rfl (lv_at hl 4 rfl) ?_
  refine lv_iload hx hb dL_law_738 (lv_at hl 0 rfl) ?_
  refine lv_iconst (v := 1) hx hb dL_law_740 (by decide) ?_
  refine lv_iadd hx hb dL_law_741 ?_
  refine lw_sld (x := x1) hx hb hX hbl hbA hS (lw_in (k := 1) hi hL (by decide)) dL_law_742 ex1 ?_
  refine lv_aload_n hx hb dL_law_743 rfl (lv_at hl 4 rfl) ?_
  refine lv_iload hx hb dL_law_744 (lv_at hl 0 rfl) ?_
  refine lv_iconst (v := 2) hx hb dL_law_746 (by decide) ?_
  refine lv_iadd hx hb dL_law_747 ?_
  refine lw_sld (x := x2) hx hb hX hbl hbA hS (lw_in (k := 2) hi hL (by decide)) dL_law_748 ex2 ?_
  refine lv_aload_n hx hb dL_law_749 rfl (lv_at hl 1 rfl) ?_
  obtain ⟨c9, r9, n9, m9, u9, jw, jr⟩ := j_take (w := w) (fl := fl) (al := al) (p0 := x1) (p1 := x2) hXI hRI
  refine l_end (mc := 8) (ms := 2000) (cells := cl) (slots := sl) (vx_runSW (rm := rmL_take) (As := [.ref h0, .int x1, .int x2, .ref ho]) (rest := []) ⟨hx, hb, hml, hown, hts⟩ (p_L_take l hl0 dC dI _ _ _ _ h0 x1 x2 co ho f _ (jw f) H.size) (vx_cwSW 4 hts gl_L_take rfl rfl rfl hd_L_take ⟨Nat.le_of_ble_eq_true rfl, Nat.le_of_ble_eq_true rfl⟩) (l_preS hK hO (fr_P2 hP) (fr_D2 hD) hA hS hG hN hZ) rfl rfl hl.1 rfl (lv_room (Nat.le_of_ble_eq_true rfl)) dL_law_750 ⟨Nat.le_trans (Nat.add_le_add_left (by decide) _) hC, Nat.le_trans (Nat.add_le_add_left (by decide) _) hSl⟩) hP hD hS hA (fun k9 sh1 ci1 ai1 al1 f1 H locs h hK hP hD hS => ?_)
  obtain ⟨hk9, ⟨rk1, hXI⟩, hf9⟩ := h
  refine lv_istore (lv' := [(5, .int k9), (4, .int (nI i)), (3, .ref ho), (2, .ref g0), (1, .ref h0), (0, .ref b)]) hx hb dL_law_753 hl (by decide) rfl (fun ls hl => ?_)
  refine lv_aload_n hx hb dL_law_755 rfl (lv_at hl 3 rfl) ?_
  refine lv_aload_n hx hb dL_law_756 rfl (lv_at hl 5 rfl) ?_
  refine lv_iload hx hb dL_law_757 (lv_at hl 1 rfl) ?_
  refine lv_iconst (v := 1) hx hb dL_law_759 (by decide) ?_
  refine lv_iadd hx hb dL_law_760 ?_
  refine lw_sld (x := x1) hx hb hX hbl hbA hS (lw_in (k := 1) hi hL (by decide)) dL_law_761 ex1 ?_
  refine lv_aload_n hx hb dL_law_762 rfl (lv_at hl 5 rfl) ?_
  refine lv_iload hx hb dL_law_763 (lv_at hl 1 rfl) ?_
  refine lv_iconst (v := 2) hx hb dL_law_765 (by decide) ?_
  refine lv_iadd hx hb dL_law_766 ?_
  refine lw_sld (x := x2) hx hb hX hbl hbA hS (lw_in (k := 2) hi hL (by decide)) dL_law_767 ex2 ?_
  refine lm_calli (rm := ({ frames := 12, cells := 0, slots := 0, locals := 180 })) (As := [.int x1, .int x2]) (rest := []) (cells := (cl + 8)) (slots := (sl + 2000)) (fun sz => p_X12_take l dC dI a ca g0 _ _ _ _ x1 x2 _ jr sz) ⟨hx, hb, hml, hown, hts⟩ (cwV 2 hts gl_X12_take rfl rfl rfl hd_X12_take ⟨Nat.le_of_ble_eq_true rfl, Nat.le_of_ble_eq_true rfl⟩) rfl hl.1 rfl hKm hP hD hS hA (Nat.le_of_ble_eq_true rfl) ⟨Nat.le_trans (Nat.add_le_add_left (by decide) _) hC, Nat.le_trans (Nat.add_le_add_left (by decide) _) hSl⟩ dL_law_768 (fun b1 v1 w1 fi1 fl1 H locs h hP hD hS => ?_)
  obtain ⟨hRI, h19, hb9⟩ := h
  refine lv_istore (lv' := [(6, .int b1), (5, .int k9), (4, .int (nI i)), (3, .ref ho), (2, .ref g0), (1, .ref h0), (0, .ref b)]) hx hb dL_law_771 hl (by decide) rfl (fun ls hl => ?_)
  refine lv_goto (tgt := 1588) hx hb dL_law_773 (by decide) ?_
  exact W.widen (k := cl + 10) (n := sl + 2100) (Nat.add_le_add_left (by decide) _) (Nat.add_le_add_left (by decide) _) (go _ _ _ _ _ _ _ _ _ _ _ _ _ H _ ls hXI hRI hK hP hD hS (lv_sub hl [2, 3, 4, 5, 6] rfl))
set_option maxHeartbeats 4000000 in
set_option maxRecDepth 100000 in
theorem law_case_9 {p : Program} {l : Launch} {e : Env} {s : State} {m : MethodId} {below : List Frame} {meth : Method} {c : Code} {b L : Nat} {xs : Nat → Int32} {dC : Nat → ClassId} {dI : Nat → Nat → Nat} {h0 g0 ho : Nat} {a : Nat → Nat} {ca : Nat → ClassId} {co : ClassId} (hl0 : l.stackTraces = false) (hF : LFix p s m meth c b L xs dC dI ca co) {i cl sl : Nat} (hi : i + 6 ≤ L) (hC : cl + 10 ≤ room_1.cells) (hSl : sl + 2100 ≤ room_1.slots) (go : LGo p l e s m below meth c b dC dI h0 g0 ho a ca co i 1588 (cl + 10) (sl + 2100)) : LGo p l e s m below meth c b dC dI h0 g0 ho a ca co i 776 cl sl := by
  obtain ⟨C0, hG, hN, hZ, hKm, hO, hL⟩ := hF
  obtain ⟨hx, hb, hr, hml, hown, hts, hX, hbl, hlocks, hgv⟩ := C0
  have hA : ∀ q : Nat, s.heap.size ≤ q → lA s q := fun _ h => h
  have hbA : ¬ lA s b := Nat.not_le.mpr hbl
  intro sh rk ci ai al f v w fi fl nn mm uu H locs ls hXI hRI hK hP hD hS hl
  obtain ⟨x1, ex1⟩ : ∃ x, xs (nI i + nI 1).toNatClampNeg = x := ⟨_, rfl⟩
  obtain ⟨x2, ex2⟩ : ∃ x, xs (nI i + nI 2).toNatClampNeg = x := ⟨_, rfl⟩
  refine lv_aload_n hx hb dL_law_776 rfl (lv_at hl 3 rfl) ?_
  refine lv_aload_n hx hb dL_law_777 rfl (lv_at hl 4 rfl) ?_
  refine lv_iload hx hb dL_law_778 (lv_at hl 0 rfl) ?_
  refine lv_iconst (v := 1) hx hb dL_law_780 (by decide) ?_
  refine lv_iadd hx hb dL_law_781 ?_
  refine lw_sld (x := x1) hx hb hX hbl hbA hS (lw_in (k := 1) hi hL (by decide)) dL_law_782 ex1 ?_
  refine lv_aload_n hx hb dL_law_783 rfl (lv_at hl 4 rfl) ?_
  refine lv_iload hx hb dL_law_784 (lv_at hl 0 rfl) ?_
  refine lv_iconst (v := 2) hx hb dL_law_786 (by decide) ?_
  refine lv_iadd hx hb dL_law_787 ?_
  refine lw_sld (x := x2) hx hb hX hbl hbA hS (lw_in (k := 2) hi hL (by decide)) dL_law_788 ex2 ?_
  refine lv_aload_n hx hb dL_law_789 rfl (lv_at hl 1 rfl) ?_
  obtain ⟨c9, r9, n9, m9, u9, jw, jr⟩ := j_drop (w := w) (fl := fl) (al := al) (p0 := x1) (p1 := x2) hXI hRI
  refine l_end (mc := 8) (ms := 2000) (cells := cl) (slots := sl) (vx_runSW (rm := rmL_drop) (As := [.ref h0, .int x1, .int x2, .ref ho]) (rest := []) ⟨hx, hb, hml, hown, hts⟩ (p_L_drop l hl0 dC dI _ _ _ _ h0 x1 x2 co ho f _ (jw f) H.size) (vx_cwSW 4 hts gl_L_drop rfl rfl rfl hd_L_drop ⟨Nat.le_of_ble_eq_true rfl, Nat.le_of_ble_eq_true rfl⟩) (l_preS hK hO (fr_P2 hP) (fr_D2 hD) hA hS hG hN hZ) rfl rfl hl.1 rfl (lv_room (Nat.le_of_ble_eq_true rfl)) dL_law_790 ⟨Nat.le_trans (Nat.add_le_add_left (by decide) _) hC, Nat.le_trans (Nat.add_le_add_left (by decide) _) hSl⟩) hP hD hS hA (fun k9 sh1 ci1 ai1 al1 f1 H locs h hK hP hD hS => ?_)
  obtain ⟨hk9, ⟨rk1, hXI⟩, hf9⟩ := h
  refine lv_istore (lv' := [(5, .int k9), (4, .int (nI i)), (3, .ref ho), (2, .ref g0), (1, .ref h0), (0, .ref b)]) hx hb dL_law_793 hl (by decide) rfl (fun ls hl => ?_)
  refine lv_aload_n hx hb dL_law_795 rfl (lv_at hl 3 rfl) ?_
  refine lv_aload_n hx hb dL_law_796 rfl (lv_at hl 5 rfl) ?_
  refine lv_iload hx hb dL_law_797 (lv_at hl 1 rfl) ?_
  refine lv_iconst (v := 1) hx hb dL_law_799 (by decide) ?_
  refine lv_iadd hx hb dL_law_800 ?_
  refine lw_sld (x := x1) hx hb hX hbl hbA hS (lw_in (k := 1) hi hL (by decide)) dL_law_801 ex1 ?_
  refine lv_aload_n hx hb dL_law_802 rfl (lv_at hl 5 rfl) ?_
  refine lv_iload hx hb dL_law_803 (lv_at hl 1 rfl) ?_
  refine lv_iconst (v := 2) hx hb dL_law_805 (by decide) ?_
  refine lv_iadd hx hb dL_law_806 ?_
  refine lw_sld (x := x2) hx hb hX hbl hbA hS (lw_in (k := 2) hi hL (by decide)) dL_law_807 ex2 ?_
  refine lm_calli (rm := ({ frames := 12, cells := 0, slots := 0, locals := 180 })) (As := [.int x1, .int x2]) (rest := []) (cells := (cl + 8)) (slots := (sl + 2000)) (fun sz => p_X12_drop l dC dI a ca g0 _ _ _ _ x1 x2 _ jr sz) ⟨hx, hb, hml, hown, hts⟩ (cwV 2 hts gl_X12_drop rfl rfl rfl hd_X12_drop ⟨Nat.le_of_ble_eq_true rfl, Nat.le_of_ble_eq_true rfl⟩) rfl hl.1 rfl hKm hP hD hS hA (Nat.le_of_ble_eq_true rfl) ⟨Nat.le_trans (Nat.add_le_add_left (by decide) _) hC, Nat.le_trans (Nat.add_le_add_left (by decide) _) hSl⟩ dL_law_808 (fun b1 v1 w1 fi1 fl1 H locs h hP hD hS => ?_)
  obtain ⟨hRI, h19, hb9⟩ := h
  refine lv_istore (lv' := [(6, .int b1), (5, .int k9), (4, .int (nI i)), (3, .ref ho), (2, .ref g0), (1, .ref h0), (0, .ref b)]) hx hb dL_law_811 hl (by decide) rfl (fun ls hl => ?_)
  refine lv_goto (tgt := 1588) hx hb dL_law_813 (by decide) ?_
  exact W.widen (k := cl + 10) (n := sl + 2100) (Nat.add_le_add_left (by decide) _) (Nat.add_le_add_left (by decide) _) (go _ _ _ _ _ _ _ _ _ _ _ _ _ H _ ls hXI hRI hK hP hD hS (lv_sub hl [2, 3, 4, 5, 6] rfl))
set_option maxHeartbeats 4000000 in
set_option maxRecDepth 100000 in
theorem law_case_10 {p : Program} {l : Launch} {e : Env} {s : State} {m : MethodId} {below : List Frame} {meth : Method} {c : Code} {b L : Nat} {xs : Nat → Int32} {dC : Nat → ClassId} {dI : Nat → Nat → Nat} {h0 g0 ho : Nat} {a : Nat → Nat} {ca : Nat → ClassId} {co : ClassId} (hl0 : l.stackTraces = false) (hF : LFix p s m meth c b L xs dC dI ca co) {i cl sl : Nat} (hi : i + 6 ≤ L) (hC : cl + 10 ≤ room_1.cells) (hSl : sl + 2100 ≤ room_1.slots) (go : LGo p l e s m below meth c b dC dI h0 g0 ho a ca co i 1588 (cl + 10) (sl + 2100)) : LGo p l e s m below meth c b dC dI h0 g0 ho a ca co i 816 cl sl := by
  obtain ⟨C0, hG, hN, hZ, hKm, hO, hL⟩ := hF
  obtain ⟨hx, hb, hr, hml, hown, hts, hX, hbl, hlocks, hgv⟩ := C0
  have hA : ∀ q : Nat, s.heap.size ≤ q → lA s q := fun _ h => h
  have hbA : ¬ lA s b := Nat.not_le.mpr hbl
  intro sh rk ci ai al f v w fi fl nn mm uu H locs ls hXI hRI hK hP hD hS hl
  obtain ⟨x1, ex1⟩ : ∃ x, xs (nI i + nI 1).toNatClampNeg = x := ⟨_, rfl⟩
  obtain ⟨x2, ex2⟩ : ∃ x, xs (nI i + nI 2).toNatClampNeg = x := ⟨_, rfl⟩
  obtain ⟨x3, ex3⟩ : ∃ x, xs (nI i + nI 3).toNatClampNeg = x := ⟨_, rfl⟩
  obtain ⟨x4, ex4⟩ : ∃ x, xs (nI i + nI 4).toNatClampNeg = x := ⟨_, rfl⟩
  refine lv_aload_n hx hb dL_law_816 rfl (lv_at hl 3 rfl) ?_
  refine lv_aload_n hx hb dL_law_817 rfl (lv_at hl 4 rfl) ?_
  refine lv_iload hx hb dL_law_818 (lv_at hl 0 rfl) ?_
  refine lv_iconst (v := 1) hx hb dL_law_820 (by decide) ?_
  refine lv_iadd hx hb dL_law_821 ?_
  refine lw_sld (x := x1) hx hb hX hbl hbA hS (lw_in (k := 1) hi hL (by decide)) dL_law_822 ex1 ?_
  refine lv_aload_n hx hb dL_law_823 rfl (lv_at hl 4 rfl) ?_
  refine lv_iload hx hb dL_law_824 (lv_at hl 0 rfl) ?_
  refine lv_iconst (v := 2) hx hb dL_law_826 (by decide) ?_
  refine lv_iadd hx hb dL_law_827 ?_
  refine lw_sld (x := x2) hx hb hX hbl hbA hS (lw_in (k := 2) hi hL (by decide)) dL_law_828 ex2 ?_
  refine lv_aload_n hx hb dL_law_829 rfl (lv_at hl 4 rfl) ?_
  refine lv_iload hx hb dL_law_830 (lv_at hl 0 rfl) ?_
  refine lv_iconst (v := 3) hx hb dL_law_832 (by decide) ?_
  refine lv_iadd hx hb dL_law_833 ?_
  refine lw_sld (x := x3) hx hb hX hbl hbA hS (lw_in (k := 3) hi hL (by decide)) dL_law_834 ex3 ?_
  refine lv_i2l hx hb dL_law_835 rfl ?_
  refine lv_bipush (v := 32) hx hb dL_law_836 (by decide) ?_
  refine lv_lshl hx hb dL_law_838 rfl ?_
  refine lv_aload_n hx hb dL_law_839 rfl (lv_at hl 4 rfl) ?_
  refine lv_iload hx hb dL_law_840 (lv_at hl 0 rfl) ?_
  refine lv_iconst (v := 4) hx hb dL_law_842 (by decide) ?_
  refine lv_iadd hx hb dL_law_843 ?_
  refine lw_sld (x := x4) hx hb hX hbl hbA hS (lw_in (k := 4) hi hL (by decide)) dL_law_844 ex4 ?_
  refine lv_i2l hx hb dL_law_845 rfl ?_
  refine lv_ldc2 (v := (4294967295)) hx hb hown (hts _ lw_w0) dL_law_846 ?_
  refine lv_land hx hb dL_law_849 ?_
  refine lv_lor hx hb dL_law_850 ?_
  refine lv_topl (fun z1 _ => ?_)
  refine lv_aload_n hx hb dL_law_851 rfl (lv_at hl 1 rfl) ?_
  obtain ⟨c9, r9, n9, m9, u9, jw, jr⟩ := j_keep (w := w) (fl := fl) (al := al) (p0 := x1) (p1 := x2) (p2 := z1) hXI hRI
  refine l_end (mc := 8) (ms := 2000) (cells := cl) (slots := sl) (vx_runSW (rm := rmL_keep) (As := [.ref h0, .int x1, .int x2, .long z1, .ref ho]) (rest := []) ⟨hx, hb, hml, hown, hts⟩ (p_L_keep l hl0 dC dI _ _ _ _ h0 x1 x2 z1 co ho f _ (jw f) H.size) (vx_cwSW 5 hts gl_L_keep rfl rfl rfl hd_L_keep ⟨Nat.le_of_ble_eq_true rfl, Nat.le_of_ble_eq_true rfl⟩) (l_preS hK hO (fr_P2 hP) (fr_D2 hD) hA hS hG hN hZ) rfl rfl hl.1 rfl (lv_room (Nat.le_of_ble_eq_true rfl)) dL_law_852 ⟨Nat.le_trans (Nat.add_le_add_left (by decide) _) hC, Nat.le_trans (Nat.add_le_add_left (by decide) _) hSl⟩) hP hD hS hA (fun k9 sh1 ci1 ai1 al1 f1 H locs h hK hP hD hS => ?_)
  obtain ⟨hk9, ⟨rk1, hXI⟩, hf9⟩ := h
  refine lv_istore (lv' := [(5, .int k9), (4, .int (nI i)), (3, .ref ho), (2, .ref g0), (1, .ref h0), (0, .ref b)]) hx hb dL_law_855 hl (by decide) rfl (fun ls hl => ?_)
  refine lv_aload_n hx hb dL_law_857 rfl (lv_at hl 3 rfl) ?_
  refine lv_aload_n hx hb dL_law_858 rfl (lv_at hl 5 rfl) ?_
  refine lv_iload hx hb dL_law_859 (lv_at hl 1 rfl) ?_
  refine lv_iconst (v := 1) hx hb dL_law_861 (by decide) ?_
  refine lv_iadd hx hb dL_law_862 ?_
  refine lw_sld (x := x1) hx hb hX hbl hbA hS (lw_in (k := 1) hi hL (by decide)) dL_law_863 ex1 ?_
  refine lv_aload_n hx hb dL_law_864 rfl (lv_at hl 5 rfl) ?_
  refine lv_iload hx hb dL_law_865 (lv_at hl 1 rfl) ?_
  refine lv_iconst (v := 2) hx hb dL_law_867 (by decide) ?_
  refine lv_iadd hx hb dL_law_868 ?_
  refine lw_sld (x := x2) hx hb hX hbl hbA hS (lw_in (k := 2) hi hL (by decide)) dL_law_869 ex2 ?_
  refine lv_aload_n hx hb dL_law_870 rfl (lv_at hl 5 rfl) ?_
  refine lv_iload hx hb dL_law_871 (lv_at hl 1 rfl) ?_
  refine lv_iconst (v := 3) hx hb dL_law_873 (by decide) ?_
  refine lv_iadd hx hb dL_law_874 ?_
  refine lw_sld (x := x3) hx hb hX hbl hbA hS (lw_in (k := 3) hi hL (by decide)) dL_law_875 ex3 ?_
  refine lv_i2l hx hb dL_law_876 rfl ?_
  refine lv_bipush (v := 32) hx hb dL_law_877 (by decide) ?_
  refine lv_lshl hx hb dL_law_879 rfl ?_
  refine lv_aload_n hx hb dL_law_880 rfl (lv_at hl 5 rfl) ?_
  refine lv_iload hx hb dL_law_881 (lv_at hl 1 rfl) ?_
  refine lv_iconst (v := 4) hx hb dL_law_883 (by decide) ?_
  refine lv_iadd hx hb dL_law_884 ?_
  refine lw_sld (x := x4) hx hb hX hbl hbA hS (lw_in (k := 4) hi hL (by decide)) dL_law_885 ex4 ?_
  refine lv_i2l hx hb dL_law_886 rfl ?_
  refine lv_ldc2 (v := (4294967295)) hx hb hown (hts _ lw_w0) dL_law_887 ?_
  refine lv_land hx hb dL_law_890 ?_
  refine lv_lor hx hb dL_law_891 ?_
  refine lv_topl (fun z2 _ => ?_)
  refine lm_calli (rm := ({ frames := 12, cells := 0, slots := 0, locals := 180 })) (As := [.int x1, .int x2, .long z2]) (rest := []) (cells := (cl + 8)) (slots := (sl + 2000)) (fun sz => p_X12_keep l dC dI a ca g0 _ _ _ _ x1 x2 z2 _ (jr z2) sz) ⟨hx, hb, hml, hown, hts⟩ (cwV 3 hts gl_X12_keep rfl rfl rfl hd_X12_keep ⟨Nat.le_of_ble_eq_true rfl, Nat.le_of_ble_eq_true rfl⟩) rfl hl.1 rfl hKm hP hD hS hA (Nat.le_of_ble_eq_true rfl) ⟨Nat.le_trans (Nat.add_le_add_left (by decide) _) hC, Nat.le_trans (Nat.add_le_add_left (by decide) _) hSl⟩ dL_law_892 (fun b1 v1 w1 fi1 fl1 H locs h hP hD hS => ?_)
  obtain ⟨hRI, h19, hb9⟩ := h
  refine lv_istore (lv' := [(6, .int b1), (5, .int k9), (4, .int (nI i)), (3, .ref ho), (2, .ref g0), (1, .ref h0), (0, .ref b)]) hx hb dL_law_895 hl (by decide) rfl (fun ls hl => ?_)
  refine lv_goto (tgt := 1588) hx hb dL_law_897 (by decide) ?_
  exact W.widen (k := cl + 10) (n := sl + 2100) (Nat.add_le_add_left (by decide) _) (Nat.add_le_add_left (by decide) _) (go _ _ _ _ _ _ _ _ _ _ _ _ _ H _ ls hXI hRI hK hP hD hS (lv_sub hl [2, 3, 4, 5, 6] rfl))
set_option maxHeartbeats 4000000 in
set_option maxRecDepth 100000 in
theorem law_case_11 {p : Program} {l : Launch} {e : Env} {s : State} {m : MethodId} {below : List Frame} {meth : Method} {c : Code} {b L : Nat} {xs : Nat → Int32} {dC : Nat → ClassId} {dI : Nat → Nat → Nat} {h0 g0 ho : Nat} {a : Nat → Nat} {ca : Nat → ClassId} {co : ClassId} (hl0 : l.stackTraces = false) (hF : LFix p s m meth c b L xs dC dI ca co) {i cl sl : Nat} (hi : i + 6 ≤ L) (hC : cl + 10 ≤ room_1.cells) (hSl : sl + 2100 ≤ room_1.slots) (go : LGo p l e s m below meth c b dC dI h0 g0 ho a ca co i 1588 (cl + 10) (sl + 2100)) : LGo p l e s m below meth c b dC dI h0 g0 ho a ca co i 900 cl sl := by
  obtain ⟨C0, hG, hN, hZ, hKm, hO, hL⟩ := hF
  obtain ⟨hx, hb, hr, hml, hown, hts, hX, hbl, hlocks, hgv⟩ := C0
  have hA : ∀ q : Nat, s.heap.size ≤ q → lA s q := fun _ h => h
  have hbA : ¬ lA s b := Nat.not_le.mpr hbl
  intro sh rk ci ai al f v w fi fl nn mm uu H locs ls hXI hRI hK hP hD hS hl
  obtain ⟨x1, ex1⟩ : ∃ x, xs (nI i + nI 1).toNatClampNeg = x := ⟨_, rfl⟩
  obtain ⟨x2, ex2⟩ : ∃ x, xs (nI i + nI 2).toNatClampNeg = x := ⟨_, rfl⟩
  obtain ⟨x3, ex3⟩ : ∃ x, xs (nI i + nI 3).toNatClampNeg = x := ⟨_, rfl⟩
  obtain ⟨x4, ex4⟩ : ∃ x, xs (nI i + nI 4).toNatClampNeg = x := ⟨_, rfl⟩
  refine lv_aload_n hx hb dL_law_900 rfl (lv_at hl 3 rfl) ?_
  refine lv_aload_n hx hb dL_law_901 rfl (lv_at hl 4 rfl) ?_
  refine lv_iload hx hb dL_law_902 (lv_at hl 0 rfl) ?_
  refine lv_iconst (v := 1) hx hb dL_law_904 (by decide) ?_
  refine lv_iadd hx hb dL_law_905 ?_
  refine lw_sld (x := x1) hx hb hX hbl hbA hS (lw_in (k := 1) hi hL (by decide)) dL_law_906 ex1 ?_
  refine lv_aload_n hx hb dL_law_907 rfl (lv_at hl 4 rfl) ?_
  refine lv_iload hx hb dL_law_908 (lv_at hl 0 rfl) ?_
  refine lv_iconst (v := 2) hx hb dL_law_910 (by decide) ?_
  refine lv_iadd hx hb dL_law_911 ?_
  refine lw_sld (x := x2) hx hb hX hbl hbA hS (lw_in (k := 2) hi hL (by decide)) dL_law_912 ex2 ?_
  refine lv_aload_n hx hb dL_law_913 rfl (lv_at hl 4 rfl) ?_
  refine lv_iload hx hb dL_law_914 (lv_at hl 0 rfl) ?_
  refine lv_iconst (v := 3) hx hb dL_law_916 (by decide) ?_
  refine lv_iadd hx hb dL_law_917 ?_
  refine lw_sld (x := x3) hx hb hX hbl hbA hS (lw_in (k := 3) hi hL (by decide)) dL_law_918 ex3 ?_
  refine lv_i2l hx hb dL_law_919 rfl ?_
  refine lv_bipush (v := 32) hx hb dL_law_920 (by decide) ?_
  refine lv_lshl hx hb dL_law_922 rfl ?_
  refine lv_aload_n hx hb dL_law_923 rfl (lv_at hl 4 rfl) ?_
  refine lv_iload hx hb dL_law_924 (lv_at hl 0 rfl) ?_
  refine lv_iconst (v := 4) hx hb dL_law_926 (by decide) ?_
  refine lv_iadd hx hb dL_law_927 ?_
  refine lw_sld (x := x4) hx hb hX hbl hbA hS (lw_in (k := 4) hi hL (by decide)) dL_law_928 ex4 ?_
  refine lv_i2l hx hb dL_law_929 rfl ?_
  refine lv_ldc2 (v := (4294967295)) hx hb hown (hts _ lw_w0) dL_law_930 ?_
  refine lv_land hx hb dL_law_933 ?_
  refine lv_lor hx hb dL_law_934 ?_
  refine lv_topl (fun z1 _ => ?_)
  refine lv_aload_n hx hb dL_law_935 rfl (lv_at hl 1 rfl) ?_
  obtain ⟨c9, r9, n9, m9, u9, jw, jr⟩ := j_during (w := w) (fl := fl) (al := al) (p0 := x1) (p1 := x2) (p2 := z1) hXI hRI
  refine l_end (mc := 8) (ms := 2000) (cells := cl) (slots := sl) (vx_runSW (rm := rmL_during) (As := [.ref h0, .int x1, .int x2, .long z1, .ref ho]) (rest := []) ⟨hx, hb, hml, hown, hts⟩ (p_L_during l hl0 dC dI _ _ _ _ h0 x1 x2 z1 co ho f _ (jw f) H.size) (vx_cwSW 5 hts gl_L_during rfl rfl rfl hd_L_during ⟨Nat.le_of_ble_eq_true rfl, Nat.le_of_ble_eq_true rfl⟩) (l_preS hK hO (fr_P2 hP) (fr_D2 hD) hA hS hG hN hZ) rfl rfl hl.1 rfl (lv_room (Nat.le_of_ble_eq_true rfl)) dL_law_936 ⟨Nat.le_trans (Nat.add_le_add_left (by decide) _) hC, Nat.le_trans (Nat.add_le_add_left (by decide) _) hSl⟩) hP hD hS hA (fun k9 sh1 ci1 ai1 al1 f1 H locs h hK hP hD hS => ?_)
  obtain ⟨hk9, ⟨rk1, hXI⟩, hf9⟩ := h
  refine lv_istore (lv' := [(5, .int k9), (4, .int (nI i)), (3, .ref ho), (2, .ref g0), (1, .ref h0), (0, .ref b)]) hx hb dL_law_939 hl (by decide) rfl (fun ls hl => ?_)
  refine lv_aload_n hx hb dL_law_941 rfl (lv_at hl 3 rfl) ?_
  refine lv_aload_n hx hb dL_law_942 rfl (lv_at hl 5 rfl) ?_
  refine lv_iload hx hb dL_law_943 (lv_at hl 1 rfl) ?_
  refine lv_iconst (v := 1) hx hb dL_law_945 (by decide) ?_
  refine lv_iadd hx hb dL_law_946 ?_
  refine lw_sld (x := x1) hx hb hX hbl hbA hS (lw_in (k := 1) hi hL (by decide)) dL_law_947 ex1 ?_
  refine lv_aload_n hx hb dL_law_948 rfl (lv_at hl 5 rfl) ?_
  refine lv_iload hx hb dL_law_949 (lv_at hl 1 rfl) ?_
  refine lv_iconst (v := 2) hx hb dL_law_951 (by decide) ?_
  refine lv_iadd hx hb dL_law_952 ?_
  refine lw_sld (x := x2) hx hb hX hbl hbA hS (lw_in (k := 2) hi hL (by decide)) dL_law_953 ex2 ?_
  refine lv_aload_n hx hb dL_law_954 rfl (lv_at hl 5 rfl) ?_
  refine lv_iload hx hb dL_law_955 (lv_at hl 1 rfl) ?_
  refine lv_iconst (v := 3) hx hb dL_law_957 (by decide) ?_
  refine lv_iadd hx hb dL_law_958 ?_
  refine lw_sld (x := x3) hx hb hX hbl hbA hS (lw_in (k := 3) hi hL (by decide)) dL_law_959 ex3 ?_
  refine lv_i2l hx hb dL_law_960 rfl ?_
  refine lv_bipush (v := 32) hx hb dL_law_961 (by decide) ?_
  refine lv_lshl hx hb dL_law_963 rfl ?_
  refine lv_aload_n hx hb dL_law_964 rfl (lv_at hl 5 rfl) ?_
  refine lv_iload hx hb dL_law_965 (lv_at hl 1 rfl) ?_
  refine lv_iconst (v := 4) hx hb dL_law_967 (by decide) ?_
  refine lv_iadd hx hb dL_law_968 ?_
  refine lw_sld (x := x4) hx hb hX hbl hbA hS (lw_in (k := 4) hi hL (by decide)) dL_law_969 ex4 ?_
  refine lv_i2l hx hb dL_law_970 rfl ?_
  refine lv_ldc2 (v := (4294967295)) hx hb hown (hts _ lw_w0) dL_law_971 ?_
  refine lv_land hx hb dL_law_974 ?_
  refine lv_lor hx hb dL_law_975 ?_
  refine lv_topl (fun z2 _ => ?_)
  refine lm_calli (rm := ({ frames := 12, cells := 0, slots := 0, locals := 180 })) (As := [.int x1, .int x2, .long z2]) (rest := []) (cells := (cl + 8)) (slots := (sl + 2000)) (fun sz => p_X12_during l dC dI a ca g0 _ _ _ _ x1 x2 z2 _ (jr z2) sz) ⟨hx, hb, hml, hown, hts⟩ (cwV 3 hts gl_X12_during rfl rfl rfl hd_X12_during ⟨Nat.le_of_ble_eq_true rfl, Nat.le_of_ble_eq_true rfl⟩) rfl hl.1 rfl hKm hP hD hS hA (Nat.le_of_ble_eq_true rfl) ⟨Nat.le_trans (Nat.add_le_add_left (by decide) _) hC, Nat.le_trans (Nat.add_le_add_left (by decide) _) hSl⟩ dL_law_976 (fun b1 v1 w1 fi1 fl1 H locs h hP hD hS => ?_)
  obtain ⟨hRI, h19, hb9⟩ := h
  refine lv_istore (lv' := [(6, .int b1), (5, .int k9), (4, .int (nI i)), (3, .ref ho), (2, .ref g0), (1, .ref h0), (0, .ref b)]) hx hb dL_law_979 hl (by decide) rfl (fun ls hl => ?_)
  refine lv_goto (tgt := 1588) hx hb dL_law_981 (by decide) ?_
  exact W.widen (k := cl + 10) (n := sl + 2100) (Nat.add_le_add_left (by decide) _) (Nat.add_le_add_left (by decide) _) (go _ _ _ _ _ _ _ _ _ _ _ _ _ H _ ls hXI hRI hK hP hD hS (lv_sub hl [2, 3, 4, 5, 6] rfl))
