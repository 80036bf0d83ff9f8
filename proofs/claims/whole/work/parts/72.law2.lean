set_option maxRecDepth 100000 in
set_option maxHeartbeats 4000000 in
theorem lc_degree {l : Launch} {L : Nat} {mem : zMem} {Q : zQ} (i : Int) (hL : L ≤ 4096) (h0 : 0 ≤ i) (h1 : i + 8 ≤ (L : Int)) (hI : zInv mem) (ih1789 : ∀ mm : zMem, zInv mm → (0 : Int) < 1 → zw_Wp l mm_L_law (zS L) 1789 [some (zR 1001), some (zR 0), some (zR 67), some (zI i)] [] mm 0 0 Q) : zw_Wp l mm_L_law (zS L) 737 [some (zR 1001), some (zR 0), some (zR 67), some (zI i)] [] mem 0 0 Q := by
  refine wp_aload_n dd_L_law_737 rfl ?_
  refine wp_aload_n dd_L_law_738 rfl ?_
  refine wp_iload_n dd_L_law_739 rfl ?_
  refine wp_iconst dd_L_law_740 (zr_lit rfl) ?_
  refine wp_iaddC dd_L_law_741 (by omega) ?_
  refine wp_ialdR dd_L_law_742 kk_1001 (by decide) (by omega) (by omega) ?_
  refine wp_aload_n dd_L_law_743 rfl ?_
  refine wp_iload_n dd_L_law_744 rfl ?_
  refine wp_iconst dd_L_law_745 (zr_lit rfl) ?_
  refine wp_iaddC dd_L_law_746 (by omega) ?_
  refine wp_ialdR dd_L_law_747 kk_1001 (by decide) (by omega) (by omega) ?_
  refine wp_aload_n dd_L_law_748 rfl ?_
  refine wp_iload_n dd_L_law_749 rfl ?_
  refine wp_iconst dd_L_law_750 (zr_lit rfl) ?_
  refine wp_iaddC dd_L_law_751 (by omega) ?_
  refine wp_ialdR dd_L_law_752 kk_1001 (by decide) (by omega) (by omega) ?_
  refine wp_aload_n dd_L_law_753 rfl ?_
  refine wp_iload_n dd_L_law_754 rfl ?_
  refine wp_iconst dd_L_law_755 (zr_lit rfl) ?_
  refine wp_iaddC dd_L_law_756 (by omega) ?_
  refine wp_ialdR dd_L_law_757 kk_1001 (by decide) (by omega) (by omega) ?_
  refine wp_callV (M' := mm_X10_degree) (As := [zI (mem 1001 (i + 1)), zI (mem 1001 (i + 2)), zI (mem 1001 (i + 3)), zI (mem 1001 (i + 4))]) (rest := []) dd_L_law_758 lk_L_72 mV_X10_degree kk_0 (zlt rfl) ⟨_, _, rfl⟩ rfl (by decide) (by decide) (Nat.le_of_ble_eq_true rfl) rfl (sp_X10_degree  (mem 1001 (i + 1)) (mem 1001 (i + 2)) (mem 1001 (i + 3)) (mem 1001 (i + 4)) hI (fun r m1 hf => ?_))
  show zw_Wp l mm_L_law (zS L) 761 [some (zR 1001), some (zR 0), some (zR 67), some (zI i)] [zI r] m1 0 0 Q
  have hs : m1 1001 = mem 1001 := hf.sc
  refine wp_aload_n dd_L_law_761 rfl ?_
  refine wp_aload_n dd_L_law_762 rfl ?_
  refine wp_iload_n dd_L_law_763 rfl ?_
  refine wp_iconst dd_L_law_764 (zr_lit rfl) ?_
  refine wp_iaddC dd_L_law_765 (by omega) ?_
  refine wp_ialdR dd_L_law_766 kk_1001 (by decide) (by omega) (by omega) ?_
  refine wp_aload_n dd_L_law_767 rfl ?_
  refine wp_iload_n dd_L_law_768 rfl ?_
  refine wp_iconst dd_L_law_769 (zr_lit rfl) ?_
  refine wp_iaddC dd_L_law_770 (by omega) ?_
  refine wp_ialdR dd_L_law_771 kk_1001 (by decide) (by omega) (by omega) ?_
  refine wp_aload_n dd_L_law_772 rfl ?_
  refine wp_iload_n dd_L_law_773 rfl ?_
  refine wp_iconst dd_L_law_774 (zr_lit rfl) ?_
  refine wp_iaddC dd_L_law_775 (by omega) ?_
  refine wp_ialdR dd_L_law_776 kk_1001 (by decide) (by omega) (by omega) ?_
  refine wp_aload_n dd_L_law_777 rfl ?_
  refine wp_iload_n dd_L_law_778 rfl ?_
  refine wp_iconst dd_L_law_779 (zr_lit rfl) ?_
  refine wp_iaddC dd_L_law_780 (by omega) ?_
  refine wp_ialdR dd_L_law_781 kk_1001 (by decide) (by omega) (by omega) ?_
  rw [show (m1 1001 (i + 1) : Int) = mem 1001 (i + 1) from by rw [hs]]
  rw [show (m1 1001 (i + 2) : Int) = mem 1001 (i + 2) from by rw [hs]]
  rw [show (m1 1001 (i + 3) : Int) = mem 1001 (i + 3) from by rw [hs]]
  rw [show (m1 1001 (i + 4) : Int) = mem 1001 (i + 4) from by rw [hs]]
  refine wp_callV (M' := mm_X11_degree) (As := [zI (mem 1001 (i + 1)), zI (mem 1001 (i + 2)), zI (mem 1001 (i + 3)), zI (mem 1001 (i + 4))]) (rest := [zI r]) dd_L_law_782 lk_L_75 mV_X11_degree kk_67 (zlt rfl) ⟨_, _, rfl⟩ rfl (by decide) (by decide) (Nat.le_of_ble_eq_true rfl) rfl (rf_degree  (mem 1001 (i + 1)) (mem 1001 (i + 2)) (mem 1001 (i + 3)) (mem 1001 (i + 4)) r hI hf (fun m2 hI2 => ?_))
  show zw_Wp l mm_L_law (zS L) 785 [some (zR 1001), some (zR 0), some (zR 67), some (zI i)] [zI r, zI r] m2 0 0 Q
  refine wp_icmp_eq (tgt := 1789) dd_L_law_785 (by decide) (fun c785_1 => ?_) (fun c785_1 => ?_)
  · skip
    refine ih1789 m2 ?_ ?_
    · assumption
    · omega
  · skip
    exfalso; omega

set_option maxRecDepth 100000 in
set_option maxHeartbeats 4000000 in
theorem lc_at {l : Launch} {L : Nat} {mem : zMem} {Q : zQ} (i : Int) (hL : L ≤ 4096) (h0 : 0 ≤ i) (h1 : i + 8 ≤ (L : Int)) (hI : zInv mem) (ih1789 : ∀ mm : zMem, zInv mm → (0 : Int) < 1 → zw_Wp l mm_L_law (zS L) 1789 [some (zR 1001), some (zR 0), some (zR 67), some (zI i)] [] mm 0 0 Q) : zw_Wp l mm_L_law (zS L) 790 [some (zR 1001), some (zR 0), some (zR 67), some (zI i)] [] mem 0 0 Q := by
  refine wp_aload_n dd_L_law_790 rfl ?_
  refine wp_aload_n dd_L_law_791 rfl ?_
  refine wp_iload_n dd_L_law_792 rfl ?_
  refine wp_iconst dd_L_law_793 (zr_lit rfl) ?_
  refine wp_iaddC dd_L_law_794 (by omega) ?_
  refine wp_ialdR dd_L_law_795 kk_1001 (by decide) (by omega) (by omega) ?_
  refine wp_aload_n dd_L_law_796 rfl ?_
  refine wp_iload_n dd_L_law_797 rfl ?_
  refine wp_iconst dd_L_law_798 (zr_lit rfl) ?_
  refine wp_iaddC dd_L_law_799 (by omega) ?_
  refine wp_ialdR dd_L_law_800 kk_1001 (by decide) (by omega) (by omega) ?_
  refine wp_aload_n dd_L_law_801 rfl ?_
  refine wp_iload_n dd_L_law_802 rfl ?_
  refine wp_iconst dd_L_law_803 (zr_lit rfl) ?_
  refine wp_iaddC dd_L_law_804 (by omega) ?_
  refine wp_ialdR dd_L_law_805 kk_1001 (by decide) (by omega) (by omega) ?_
  refine wp_aload_n dd_L_law_806 rfl ?_
  refine wp_iload_n dd_L_law_807 rfl ?_
  refine wp_iconst dd_L_law_808 (zr_lit rfl) ?_
  refine wp_iaddC dd_L_law_809 (by omega) ?_
  refine wp_ialdR dd_L_law_810 kk_1001 (by decide) (by omega) (by omega) ?_
  refine wp_aload_n dd_L_law_811 rfl ?_
  refine wp_iload_n dd_L_law_812 rfl ?_
  refine wp_iconst dd_L_law_813 (zr_lit rfl) ?_
  refine wp_iaddC dd_L_law_814 (by omega) ?_
  refine wp_ialdR dd_L_law_815 kk_1001 (by decide) (by omega) (by omega) ?_
  refine wp_callV (M' := mm_X10_at) (As := [zI (mem 1001 (i + 1)), zI (mem 1001 (i + 2)), zI (mem 1001 (i + 3)), zI (mem 1001 (i + 4)), zI (mem 1001 (i + 5))]) (rest := []) dd_L_law_816 lk_L_76 mV_X10_at kk_0 (zlt rfl) ⟨_, _, rfl⟩ rfl (by decide) (by decide) (Nat.le_of_ble_eq_true rfl) rfl (sp_X10_at  (mem 1001 (i + 1)) (mem 1001 (i + 2)) (mem 1001 (i + 3)) (mem 1001 (i + 4)) (mem 1001 (i + 5)) hI (fun r m1 hf => ?_))
  show zw_Wp l mm_L_law (zS L) 819 [some (zR 1001), some (zR 0), some (zR 67), some (zI i)] [zI r] m1 0 0 Q
  have hs : m1 1001 = mem 1001 := hf.sc
  refine wp_aload_n dd_L_law_819 rfl ?_
  refine wp_aload_n dd_L_law_820 rfl ?_
  refine wp_iload_n dd_L_law_821 rfl ?_
  refine wp_iconst dd_L_law_822 (zr_lit rfl) ?_
  refine wp_iaddC dd_L_law_823 (by omega) ?_
  refine wp_ialdR dd_L_law_824 kk_1001 (by decide) (by omega) (by omega) ?_
  refine wp_aload_n dd_L_law_825 rfl ?_
  refine wp_iload_n dd_L_law_826 rfl ?_
  refine wp_iconst dd_L_law_827 (zr_lit rfl) ?_
  refine wp_iaddC dd_L_law_828 (by omega) ?_
  refine wp_ialdR dd_L_law_829 kk_1001 (by decide) (by omega) (by omega) ?_
  refine wp_aload_n dd_L_law_830 rfl ?_
  refine wp_iload_n dd_L_law_831 rfl ?_
  refine wp_iconst dd_L_law_832 (zr_lit rfl) ?_
  refine wp_iaddC dd_L_law_833 (by omega) ?_
  refine wp_ialdR dd_L_law_834 kk_1001 (by decide) (by omega) (by omega) ?_
  refine wp_aload_n dd_L_law_835 rfl ?_
  refine wp_iload_n dd_L_law_836 rfl ?_
  refine wp_iconst dd_L_law_837 (zr_lit rfl) ?_
  refine wp_iaddC dd_L_law_838 (by omega) ?_
  refine wp_ialdR dd_L_law_839 kk_1001 (by decide) (by omega) (by omega) ?_
  refine wp_aload_n dd_L_law_840 rfl ?_
  refine wp_iload_n dd_L_law_841 rfl ?_
  refine wp_iconst dd_L_law_842 (zr_lit rfl) ?_
  refine wp_iaddC dd_L_law_843 (by omega) ?_
  refine wp_ialdR dd_L_law_844 kk_1001 (by decide) (by omega) (by omega) ?_
  rw [show (m1 1001 (i + 1) : Int) = mem 1001 (i + 1) from by rw [hs]]
  rw [show (m1 1001 (i + 2) : Int) = mem 1001 (i + 2) from by rw [hs]]
  rw [show (m1 1001 (i + 3) : Int) = mem 1001 (i + 3) from by rw [hs]]
  rw [show (m1 1001 (i + 4) : Int) = mem 1001 (i + 4) from by rw [hs]]
  rw [show (m1 1001 (i + 5) : Int) = mem 1001 (i + 5) from by rw [hs]]
  refine wp_callV (M' := mm_X11_at) (As := [zI (mem 1001 (i + 1)), zI (mem 1001 (i + 2)), zI (mem 1001 (i + 3)), zI (mem 1001 (i + 4)), zI (mem 1001 (i + 5))]) (rest := [zI r]) dd_L_law_845 lk_L_79 mV_X11_at kk_67 (zlt rfl) ⟨_, _, rfl⟩ rfl (by decide) (by decide) (Nat.le_of_ble_eq_true rfl) rfl (rf_at  (mem 1001 (i + 1)) (mem 1001 (i + 2)) (mem 1001 (i + 3)) (mem 1001 (i + 4)) (mem 1001 (i + 5)) r hI hf (fun m2 hI2 => ?_))
  show zw_Wp l mm_L_law (zS L) 848 [some (zR 1001), some (zR 0), some (zR 67), some (zI i)] [zI r, zI r] m2 0 0 Q
  refine wp_icmp_eq (tgt := 1789) dd_L_law_848 (by decide) (fun c848_1 => ?_) (fun c848_1 => ?_)
  · skip
    refine ih1789 m2 ?_ ?_
    · assumption
    · omega
  · skip
    exfalso; omega

set_option maxRecDepth 100000 in
set_option maxHeartbeats 4000000 in
theorem lc_remainder {l : Launch} {L : Nat} {mem : zMem} {Q : zQ} (i : Int) (hL : L ≤ 4096) (h0 : 0 ≤ i) (h1 : i + 8 ≤ (L : Int)) (hI : zInv mem) (ih1789 : ∀ mm : zMem, zInv mm → (0 : Int) < 1 → zw_Wp l mm_L_law (zS L) 1789 [some (zR 1001), some (zR 0), some (zR 67), some (zI i)] [] mm 0 0 Q) : zw_Wp l mm_L_law (zS L) 853 [some (zR 1001), some (zR 0), some (zR 67), some (zI i)] [] mem 0 0 Q := by
  refine wp_aload_n dd_L_law_853 rfl ?_
  refine wp_aload_n dd_L_law_854 rfl ?_
  refine wp_iload_n dd_L_law_855 rfl ?_
  refine wp_iconst dd_L_law_856 (zr_lit rfl) ?_
  refine wp_iaddC dd_L_law_857 (by omega) ?_
  refine wp_ialdR dd_L_law_858 kk_1001 (by decide) (by omega) (by omega) ?_
  refine wp_aload_n dd_L_law_859 rfl ?_
  refine wp_iload_n dd_L_law_860 rfl ?_
  refine wp_iconst dd_L_law_861 (zr_lit rfl) ?_
  refine wp_iaddC dd_L_law_862 (by omega) ?_
  refine wp_ialdR dd_L_law_863 kk_1001 (by decide) (by omega) (by omega) ?_
  refine wp_aload_n dd_L_law_864 rfl ?_
  refine wp_iload_n dd_L_law_865 rfl ?_
  refine wp_iconst dd_L_law_866 (zr_lit rfl) ?_
  refine wp_iaddC dd_L_law_867 (by omega) ?_
  refine wp_ialdR dd_L_law_868 kk_1001 (by decide) (by omega) (by omega) ?_
  refine wp_aload_n dd_L_law_869 rfl ?_
  refine wp_iload_n dd_L_law_870 rfl ?_
  refine wp_iconst dd_L_law_871 (zr_lit rfl) ?_
  refine wp_iaddC dd_L_law_872 (by omega) ?_
  refine wp_ialdR dd_L_law_873 kk_1001 (by decide) (by omega) (by omega) ?_
  refine wp_aload_n dd_L_law_874 rfl ?_
  refine wp_iload_n dd_L_law_875 rfl ?_
  refine wp_iconst dd_L_law_876 (zr_lit rfl) ?_
  refine wp_iaddC dd_L_law_877 (by omega) ?_
  refine wp_ialdR dd_L_law_878 kk_1001 (by decide) (by omega) (by omega) ?_
  refine wp_callV (M' := mm_X10_remainder) (As := [zI (mem 1001 (i + 1)), zI (mem 1001 (i + 2)), zI (mem 1001 (i + 3)), zI (mem 1001 (i + 4)), zI (mem 1001 (i + 5))]) (rest := []) dd_L_law_879 lk_L_80 mV_X10_remainder kk_0 (zlt rfl) ⟨_, _, rfl⟩ rfl (by decide) (by decide) (Nat.le_of_ble_eq_true rfl) rfl (sp_X10_remainder  (mem 1001 (i + 1)) (mem 1001 (i + 2)) (mem 1001 (i + 3)) (mem 1001 (i + 4)) (mem 1001 (i + 5)) hI (fun r m1 hf => ?_))
  show zw_Wp l mm_L_law (zS L) 882 [some (zR 1001), some (zR 0), some (zR 67), some (zI i)] [zI r] m1 0 0 Q
  have hs : m1 1001 = mem 1001 := hf.sc
  refine wp_aload_n dd_L_law_882 rfl ?_
  refine wp_aload_n dd_L_law_883 rfl ?_
  refine wp_iload_n dd_L_law_884 rfl ?_
  refine wp_iconst dd_L_law_885 (zr_lit rfl) ?_
  refine wp_iaddC dd_L_law_886 (by omega) ?_
  refine wp_ialdR dd_L_law_887 kk_1001 (by decide) (by omega) (by omega) ?_
  refine wp_aload_n dd_L_law_888 rfl ?_
  refine wp_iload_n dd_L_law_889 rfl ?_
  refine wp_iconst dd_L_law_890 (zr_lit rfl) ?_
  refine wp_iaddC dd_L_law_891 (by omega) ?_
  refine wp_ialdR dd_L_law_892 kk_1001 (by decide) (by omega) (by omega) ?_
  refine wp_aload_n dd_L_law_893 rfl ?_
  refine wp_iload_n dd_L_law_894 rfl ?_
  refine wp_iconst dd_L_law_895 (zr_lit rfl) ?_
  refine wp_iaddC dd_L_law_896 (by omega) ?_
  refine wp_ialdR dd_L_law_897 kk_1001 (by decide) (by omega) (by omega) ?_
  refine wp_aload_n dd_L_law_898 rfl ?_
  refine wp_iload_n dd_L_law_899 rfl ?_
  refine wp_iconst dd_L_law_900 (zr_lit rfl) ?_
  refine wp_iaddC dd_L_law_901 (by omega) ?_
  refine wp_ialdR dd_L_law_902 kk_1001 (by decide) (by omega) (by omega) ?_
  refine wp_aload_n dd_L_law_903 rfl ?_
  refine wp_iload_n dd_L_law_904 rfl ?_
  refine wp_iconst dd_L_law_905 (zr_lit rfl) ?_
  refine wp_iaddC dd_L_law_906 (by omega) ?_
  refine wp_ialdR dd_L_law_907 kk_1001 (by decide) (by omega) (by omega) ?_
  rw [show (m1 1001 (i + 1) : Int) = mem 1001 (i + 1) from by rw [hs]]
  rw [show (m1 1001 (i + 2) : Int) = mem 1001 (i + 2) from by rw [hs]]
  rw [show (m1 1001 (i + 3) : Int) = mem 1001 (i + 3) from by rw [hs]]
  rw [show (m1 1001 (i + 4) : Int) = mem 1001 (i + 4) from by rw [hs]]
  rw [show (m1 1001 (i + 5) : Int) = mem 1001 (i + 5) from by rw [hs]]
  refine wp_callV (M' := mm_X11_remainder) (As := [zI (mem 1001 (i + 1)), zI (mem 1001 (i + 2)), zI (mem 1001 (i + 3)), zI (mem 1001 (i + 4)), zI (mem 1001 (i + 5))]) (rest := [zI r]) dd_L_law_908 lk_L_83 mV_X11_remainder kk_67 (zlt rfl) ⟨_, _, rfl⟩ rfl (by decide) (by decide) (Nat.le_of_ble_eq_true rfl) rfl (rf_remainder  (mem 1001 (i + 1)) (mem 1001 (i + 2)) (mem 1001 (i + 3)) (mem 1001 (i + 4)) (mem 1001 (i + 5)) r hI hf (fun m2 hI2 => ?_))
  show zw_Wp l mm_L_law (zS L) 911 [some (zR 1001), some (zR 0), some (zR 67), some (zI i)] [zI r, zI r] m2 0 0 Q
  refine wp_icmp_eq (tgt := 1789) dd_L_law_911 (by decide) (fun c911_1 => ?_) (fun c911_1 => ?_)
  · skip
    refine ih1789 m2 ?_ ?_
    · assumption
    · omega
  · skip
    exfalso; omega

set_option maxRecDepth 100000 in
set_option maxHeartbeats 4000000 in
theorem lc_common {l : Launch} {L : Nat} {mem : zMem} {Q : zQ} (i : Int) (hL : L ≤ 4096) (h0 : 0 ≤ i) (h1 : i + 8 ≤ (L : Int)) (hI : zInv mem) (ih1789 : ∀ mm : zMem, zInv mm → (0 : Int) < 1 → zw_Wp l mm_L_law (zS L) 1789 [some (zR 1001), some (zR 0), some (zR 67), some (zI i)] [] mm 0 0 Q) : zw_Wp l mm_L_law (zS L) 916 [some (zR 1001), some (zR 0), some (zR 67), some (zI i)] [] mem 0 0 Q := by
  refine wp_aload_n dd_L_law_916 rfl ?_
  refine wp_aload_n dd_L_law_917 rfl ?_
  refine wp_iload_n dd_L_law_918 rfl ?_
  refine wp_iconst dd_L_law_919 (zr_lit rfl) ?_
  refine wp_iaddC dd_L_law_920 (by omega) ?_
  refine wp_ialdR dd_L_law_921 kk_1001 (by decide) (by omega) (by omega) ?_
  refine wp_aload_n dd_L_law_922 rfl ?_
  refine wp_iload_n dd_L_law_923 rfl ?_
  refine wp_iconst dd_L_law_924 (zr_lit rfl) ?_
  refine wp_iaddC dd_L_law_925 (by omega) ?_
  refine wp_ialdR dd_L_law_926 kk_1001 (by decide) (by omega) (by omega) ?_
  refine wp_aload_n dd_L_law_927 rfl ?_
  refine wp_iload_n dd_L_law_928 rfl ?_
  refine wp_iconst dd_L_law_929 (zr_lit rfl) ?_
  refine wp_iaddC dd_L_law_930 (by omega) ?_
  refine wp_ialdR dd_L_law_931 kk_1001 (by decide) (by omega) (by omega) ?_
  refine wp_aload_n dd_L_law_932 rfl ?_
  refine wp_iload_n dd_L_law_933 rfl ?_
  refine wp_iconst dd_L_law_934 (zr_lit rfl) ?_
  refine wp_iaddC dd_L_law_935 (by omega) ?_
  refine wp_ialdR dd_L_law_936 kk_1001 (by decide) (by omega) (by omega) ?_
  refine wp_callV (M' := mm_X10_common) (As := [zI (mem 1001 (i + 1)), zI (mem 1001 (i + 2)), zI (mem 1001 (i + 3)), zI (mem 1001 (i + 4))]) (rest := []) dd_L_law_937 lk_L_84 mV_X10_common kk_0 (zlt rfl) ⟨_, _, rfl⟩ rfl (by decide) (by decide) (Nat.le_of_ble_eq_true rfl) rfl (sp_X10_common  (mem 1001 (i + 1)) (mem 1001 (i + 2)) (mem 1001 (i + 3)) (mem 1001 (i + 4)) hI (fun r m1 hf => ?_))
  show zw_Wp l mm_L_law (zS L) 940 [some (zR 1001), some (zR 0), some (zR 67), some (zI i)] [zI r] m1 0 0 Q
  have hs : m1 1001 = mem 1001 := hf.sc
  refine wp_aload_n dd_L_law_940 rfl ?_
  refine wp_aload_n dd_L_law_941 rfl ?_
  refine wp_iload_n dd_L_law_942 rfl ?_
  refine wp_iconst dd_L_law_943 (zr_lit rfl) ?_
  refine wp_iaddC dd_L_law_944 (by omega) ?_
  refine wp_ialdR dd_L_law_945 kk_1001 (by decide) (by omega) (by omega) ?_
  refine wp_aload_n dd_L_law_946 rfl ?_
  refine wp_iload_n dd_L_law_947 rfl ?_
  refine wp_iconst dd_L_law_948 (zr_lit rfl) ?_
  refine wp_iaddC dd_L_law_949 (by omega) ?_
  refine wp_ialdR dd_L_law_950 kk_1001 (by decide) (by omega) (by omega) ?_
  refine wp_aload_n dd_L_law_951 rfl ?_
  refine wp_iload_n dd_L_law_952 rfl ?_
  refine wp_iconst dd_L_law_953 (zr_lit rfl) ?_
  refine wp_iaddC dd_L_law_954 (by omega) ?_
  refine wp_ialdR dd_L_law_955 kk_1001 (by decide) (by omega) (by omega) ?_
  refine wp_aload_n dd_L_law_956 rfl ?_
  refine wp_iload_n dd_L_law_957 rfl ?_
  refine wp_iconst dd_L_law_958 (zr_lit rfl) ?_
  refine wp_iaddC dd_L_law_959 (by omega) ?_
  refine wp_ialdR dd_L_law_960 kk_1001 (by decide) (by omega) (by omega) ?_
  rw [show (m1 1001 (i + 1) : Int) = mem 1001 (i + 1) from by rw [hs]]
  rw [show (m1 1001 (i + 2) : Int) = mem 1001 (i + 2) from by rw [hs]]
  rw [show (m1 1001 (i + 3) : Int) = mem 1001 (i + 3) from by rw [hs]]
  rw [show (m1 1001 (i + 4) : Int) = mem 1001 (i + 4) from by rw [hs]]
  refine wp_callV (M' := mm_X11_common) (As := [zI (mem 1001 (i + 1)), zI (mem 1001 (i + 2)), zI (mem 1001 (i + 3)), zI (mem 1001 (i + 4))]) (rest := [zI r]) dd_L_law_961 lk_L_87 mV_X11_common kk_67 (zlt rfl) ⟨_, _, rfl⟩ rfl (by decide) (by decide) (Nat.le_of_ble_eq_true rfl) rfl (rf_common  (mem 1001 (i + 1)) (mem 1001 (i + 2)) (mem 1001 (i + 3)) (mem 1001 (i + 4)) r hI hf (fun m2 hI2 => ?_))
  show zw_Wp l mm_L_law (zS L) 964 [some (zR 1001), some (zR 0), some (zR 67), some (zI i)] [zI r, zI r] m2 0 0 Q
  refine wp_icmp_eq (tgt := 1789) dd_L_law_964 (by decide) (fun c964_1 => ?_) (fun c964_1 => ?_)
  · skip
    refine ih1789 m2 ?_ ?_
    · assumption
    · omega
  · skip
    exfalso; omega

set_option maxRecDepth 100000 in
set_option maxHeartbeats 4000000 in
theorem lc_norm {l : Launch} {L : Nat} {mem : zMem} {Q : zQ} (i : Int) (hL : L ≤ 4096) (h0 : 0 ≤ i) (h1 : i + 8 ≤ (L : Int)) (hI : zInv mem) (ih1789 : ∀ mm : zMem, zInv mm → (0 : Int) < 1 → zw_Wp l mm_L_law (zS L) 1789 [some (zR 1001), some (zR 0), some (zR 67), some (zI i)] [] mm 0 0 Q) : zw_Wp l mm_L_law (zS L) 969 [some (zR 1001), some (zR 0), some (zR 67), some (zI i)] [] mem 0 0 Q := by
  refine wp_aload_n dd_L_law_969 rfl ?_
  refine wp_aload_n dd_L_law_970 rfl ?_
  refine wp_iload_n dd_L_law_971 rfl ?_
  refine wp_iconst dd_L_law_972 (zr_lit rfl) ?_
  refine wp_iaddC dd_L_law_973 (by omega) ?_
  refine wp_ialdR dd_L_law_974 kk_1001 (by decide) (by omega) (by omega) ?_
  refine wp_aload_n dd_L_law_975 rfl ?_
  refine wp_iload_n dd_L_law_976 rfl ?_
  refine wp_iconst dd_L_law_977 (zr_lit rfl) ?_
  refine wp_iaddC dd_L_law_978 (by omega) ?_
  refine wp_ialdR dd_L_law_979 kk_1001 (by decide) (by omega) (by omega) ?_
  refine wp_aload_n dd_L_law_980 rfl ?_
  refine wp_iload_n dd_L_law_981 rfl ?_
  refine wp_iconst dd_L_law_982 (zr_lit rfl) ?_
  refine wp_iaddC dd_L_law_983 (by omega) ?_
  refine wp_ialdR dd_L_law_984 kk_1001 (by decide) (by omega) (by omega) ?_
  refine wp_aload_n dd_L_law_985 rfl ?_
  refine wp_iload_n dd_L_law_986 rfl ?_
  refine wp_iconst dd_L_law_987 (zr_lit rfl) ?_
  refine wp_iaddC dd_L_law_988 (by omega) ?_
  refine wp_ialdR dd_L_law_989 kk_1001 (by decide) (by omega) (by omega) ?_
  refine wp_callV (M' := mm_X10_norm) (As := [zI (mem 1001 (i + 1)), zI (mem 1001 (i + 2)), zI (mem 1001 (i + 3)), zI (mem 1001 (i + 4))]) (rest := []) dd_L_law_990 lk_L_88 mV_X10_norm kk_0 (zlt rfl) ⟨_, _, rfl⟩ rfl (by decide) (by decide) (Nat.le_of_ble_eq_true rfl) rfl (sp_X10_norm  (mem 1001 (i + 1)) (mem 1001 (i + 2)) (mem 1001 (i + 3)) (mem 1001 (i + 4)) hI (fun r m1 hf => ?_))
  show zw_Wp l mm_L_law (zS L) 993 [some (zR 1001), some (zR 0), some (zR 67), some (zI i)] [zI r] m1 0 0 Q
  have hs : m1 1001 = mem 1001 := hf.sc
  refine wp_aload_n dd_L_law_993 rfl ?_
  refine wp_aload_n dd_L_law_994 rfl ?_
  refine wp_iload_n dd_L_law_995 rfl ?_
  refine wp_iconst dd_L_law_996 (zr_lit rfl) ?_
  refine wp_iaddC dd_L_law_997 (by omega) ?_
  refine wp_ialdR dd_L_law_998 kk_1001 (by decide) (by omega) (by omega) ?_
  refine wp_aload_n dd_L_law_999 rfl ?_
  refine wp_iload_n dd_L_law_1000 rfl ?_
  refine wp_iconst dd_L_law_1001 (zr_lit rfl) ?_
  refine wp_iaddC dd_L_law_1002 (by omega) ?_
  refine wp_ialdR dd_L_law_1003 kk_1001 (by decide) (by omega) (by omega) ?_
  refine wp_aload_n dd_L_law_1004 rfl ?_
  refine wp_iload_n dd_L_law_1005 rfl ?_
  refine wp_iconst dd_L_law_1006 (zr_lit rfl) ?_
  refine wp_iaddC dd_L_law_1007 (by omega) ?_
  refine wp_ialdR dd_L_law_1008 kk_1001 (by decide) (by omega) (by omega) ?_
  refine wp_aload_n dd_L_law_1009 rfl ?_
  refine wp_iload_n dd_L_law_1010 rfl ?_
  refine wp_iconst dd_L_law_1011 (zr_lit rfl) ?_
  refine wp_iaddC dd_L_law_1012 (by omega) ?_
  refine wp_ialdR dd_L_law_1013 kk_1001 (by decide) (by omega) (by omega) ?_
  rw [show (m1 1001 (i + 1) : Int) = mem 1001 (i + 1) from by rw [hs]]
  rw [show (m1 1001 (i + 2) : Int) = mem 1001 (i + 2) from by rw [hs]]
  rw [show (m1 1001 (i + 3) : Int) = mem 1001 (i + 3) from by rw [hs]]
  rw [show (m1 1001 (i + 4) : Int) = mem 1001 (i + 4) from by rw [hs]]
  refine wp_callV (M' := mm_X11_norm) (As := [zI (mem 1001 (i + 1)), zI (mem 1001 (i + 2)), zI (mem 1001 (i + 3)), zI (mem 1001 (i + 4))]) (rest := [zI r]) dd_L_law_1014 lk_L_91 mV_X11_norm kk_67 (zlt rfl) ⟨_, _, rfl⟩ rfl (by decide) (by decide) (Nat.le_of_ble_eq_true rfl) rfl (rf_norm  (mem 1001 (i + 1)) (mem 1001 (i + 2)) (mem 1001 (i + 3)) (mem 1001 (i + 4)) r hI hf (fun m2 hI2 => ?_))
  show zw_Wp l mm_L_law (zS L) 1017 [some (zR 1001), some (zR 0), some (zR 67), some (zI i)] [zI r, zI r] m2 0 0 Q
  refine wp_icmp_eq (tgt := 1789) dd_L_law_1017 (by decide) (fun c1017_1 => ?_) (fun c1017_1 => ?_)
  · skip
    refine ih1789 m2 ?_ ?_
    · assumption
    · omega
  · skip
    exfalso; omega

set_option maxRecDepth 100000 in
set_option maxHeartbeats 4000000 in
theorem lc_extra {l : Launch} {L : Nat} {mem : zMem} {Q : zQ} (i : Int) (hL : L ≤ 4096) (h0 : 0 ≤ i) (h1 : i + 8 ≤ (L : Int)) (hI : zInv mem) (ih1789 : ∀ mm : zMem, zInv mm → (0 : Int) < 1 → zw_Wp l mm_L_law (zS L) 1789 [some (zR 1001), some (zR 0), some (zR 67), some (zI i)] [] mm 0 0 Q) : zw_Wp l mm_L_law (zS L) 1022 [some (zR 1001), some (zR 0), some (zR 67), some (zI i)] [] mem 0 0 Q := by
  refine wp_aload_n dd_L_law_1022 rfl ?_
  refine wp_aload_n dd_L_law_1023 rfl ?_
  refine wp_iload_n dd_L_law_1024 rfl ?_
  refine wp_iconst dd_L_law_1025 (zr_lit rfl) ?_
  refine wp_iaddC dd_L_law_1026 (by omega) ?_
  refine wp_ialdR dd_L_law_1027 kk_1001 (by decide) (by omega) (by omega) ?_
  refine wp_aload_n dd_L_law_1028 rfl ?_
  refine wp_iload_n dd_L_law_1029 rfl ?_
  refine wp_iconst dd_L_law_1030 (zr_lit rfl) ?_
  refine wp_iaddC dd_L_law_1031 (by omega) ?_
  refine wp_ialdR dd_L_law_1032 kk_1001 (by decide) (by omega) (by omega) ?_
  refine wp_aload_n dd_L_law_1033 rfl ?_
  refine wp_iload_n dd_L_law_1034 rfl ?_
  refine wp_iconst dd_L_law_1035 (zr_lit rfl) ?_
  refine wp_iaddC dd_L_law_1036 (by omega) ?_
  refine wp_ialdR dd_L_law_1037 kk_1001 (by decide) (by omega) (by omega) ?_
  refine wp_callV (M' := mm_X10_extra) (As := [zI (mem 1001 (i + 1)), zI (mem 1001 (i + 2)), zI (mem 1001 (i + 3))]) (rest := []) dd_L_law_1038 lk_L_92 mV_X10_extra kk_0 (zlt rfl) ⟨_, _, rfl⟩ rfl (by decide) (by decide) (Nat.le_of_ble_eq_true rfl) rfl (sp_X10_extra  (mem 1001 (i + 1)) (mem 1001 (i + 2)) (mem 1001 (i + 3)) hI (fun r m1 hf => ?_))
  show zw_Wp l mm_L_law (zS L) 1041 [some (zR 1001), some (zR 0), some (zR 67), some (zI i)] [zI r] m1 0 0 Q
  have hs : m1 1001 = mem 1001 := hf.sc
  refine wp_aload_n dd_L_law_1041 rfl ?_
  refine wp_aload_n dd_L_law_1042 rfl ?_
  refine wp_iload_n dd_L_law_1043 rfl ?_
  refine wp_iconst dd_L_law_1044 (zr_lit rfl) ?_
  refine wp_iaddC dd_L_law_1045 (by omega) ?_
  refine wp_ialdR dd_L_law_1046 kk_1001 (by decide) (by omega) (by omega) ?_
  refine wp_aload_n dd_L_law_1047 rfl ?_
  refine wp_iload_n dd_L_law_1048 rfl ?_
  refine wp_iconst dd_L_law_1049 (zr_lit rfl) ?_
  refine wp_iaddC dd_L_law_1050 (by omega) ?_
  refine wp_ialdR dd_L_law_1051 kk_1001 (by decide) (by omega) (by omega) ?_
  refine wp_aload_n dd_L_law_1052 rfl ?_
  refine wp_iload_n dd_L_law_1053 rfl ?_
  refine wp_iconst dd_L_law_1054 (zr_lit rfl) ?_
  refine wp_iaddC dd_L_law_1055 (by omega) ?_
  refine wp_ialdR dd_L_law_1056 kk_1001 (by decide) (by omega) (by omega) ?_
  rw [show (m1 1001 (i + 1) : Int) = mem 1001 (i + 1) from by rw [hs]]
  rw [show (m1 1001 (i + 2) : Int) = mem 1001 (i + 2) from by rw [hs]]
  rw [show (m1 1001 (i + 3) : Int) = mem 1001 (i + 3) from by rw [hs]]
  refine wp_callV (M' := mm_X11_extra) (As := [zI (mem 1001 (i + 1)), zI (mem 1001 (i + 2)), zI (mem 1001 (i + 3))]) (rest := [zI r]) dd_L_law_1057 lk_L_95 mV_X11_extra kk_67 (zlt rfl) ⟨_, _, rfl⟩ rfl (by decide) (by decide) (Nat.le_of_ble_eq_true rfl) rfl (rf_extra  (mem 1001 (i + 1)) (mem 1001 (i + 2)) (mem 1001 (i + 3)) r hI hf (fun m2 hI2 => ?_))
  show zw_Wp l mm_L_law (zS L) 1060 [some (zR 1001), some (zR 0), some (zR 67), some (zI i)] [zI r, zI r] m2 0 0 Q
  refine wp_icmp_eq (tgt := 1789) dd_L_law_1060 (by decide) (fun c1060_1 => ?_) (fun c1060_1 => ?_)
  · skip
    refine ih1789 m2 ?_ ?_
    · assumption
    · omega
  · skip
    exfalso; omega

set_option maxRecDepth 100000 in
set_option maxHeartbeats 4000000 in
theorem lc_zeros {l : Launch} {L : Nat} {mem : zMem} {Q : zQ} (i : Int) (hL : L ≤ 4096) (h0 : 0 ≤ i) (h1 : i + 8 ≤ (L : Int)) (hI : zInv mem) (ih1789 : ∀ mm : zMem, zInv mm → (0 : Int) < 1 → zw_Wp l mm_L_law (zS L) 1789 [some (zR 1001), some (zR 0), some (zR 67), some (zI i)] [] mm 0 0 Q) : zw_Wp l mm_L_law (zS L) 1065 [some (zR 1001), some (zR 0), some (zR 67), some (zI i)] [] mem 0 0 Q := by
  refine wp_aload_n dd_L_law_1065 rfl ?_
  refine wp_aload_n dd_L_law_1066 rfl ?_
  refine wp_iload_n dd_L_law_1067 rfl ?_
  refine wp_iconst dd_L_law_1068 (zr_lit rfl) ?_
  refine wp_iaddC dd_L_law_1069 (by omega) ?_
  refine wp_ialdR dd_L_law_1070 kk_1001 (by decide) (by omega) (by omega) ?_
  refine wp_aload_n dd_L_law_1071 rfl ?_
  refine wp_iload_n dd_L_law_1072 rfl ?_
  refine wp_iconst dd_L_law_1073 (zr_lit rfl) ?_
  refine wp_iaddC dd_L_law_1074 (by omega) ?_
  refine wp_ialdR dd_L_law_1075 kk_1001 (by decide) (by omega) (by omega) ?_
  refine wp_aload_n dd_L_law_1076 rfl ?_
  refine wp_iload_n dd_L_law_1077 rfl ?_
  refine wp_iconst dd_L_law_1078 (zr_lit rfl) ?_
  refine wp_iaddC dd_L_law_1079 (by omega) ?_
  refine wp_ialdR dd_L_law_1080 kk_1001 (by decide) (by omega) (by omega) ?_
  refine wp_callV (M' := mm_X10_zeros) (As := [zI (mem 1001 (i + 1)), zI (mem 1001 (i + 2)), zI (mem 1001 (i + 3))]) (rest := []) dd_L_law_1081 lk_L_96 mV_X10_zeros kk_0 (zlt rfl) ⟨_, _, rfl⟩ rfl (by decide) (by decide) (Nat.le_of_ble_eq_true rfl) rfl (sp_X10_zeros  (mem 1001 (i + 1)) (mem 1001 (i + 2)) (mem 1001 (i + 3)) hI (fun r m1 hf => ?_))
  show zw_Wp l mm_L_law (zS L) 1084 [some (zR 1001), some (zR 0), some (zR 67), some (zI i)] [zI r] m1 0 0 Q
  have hs : m1 1001 = mem 1001 := hf.sc
  refine wp_aload_n dd_L_law_1084 rfl ?_
  refine wp_aload_n dd_L_law_1085 rfl ?_
  refine wp_iload_n dd_L_law_1086 rfl ?_
  refine wp_iconst dd_L_law_1087 (zr_lit rfl) ?_
  refine wp_iaddC dd_L_law_1088 (by omega) ?_
  refine wp_ialdR dd_L_law_1089 kk_1001 (by decide) (by omega) (by omega) ?_
  refine wp_aload_n dd_L_law_1090 rfl ?_
  refine wp_iload_n dd_L_law_1091 rfl ?_
  refine wp_iconst dd_L_law_1092 (zr_lit rfl) ?_
  refine wp_iaddC dd_L_law_1093 (by omega) ?_
  refine wp_ialdR dd_L_law_1094 kk_1001 (by decide) (by omega) (by omega) ?_
  refine wp_aload_n dd_L_law_1095 rfl ?_
  refine wp_iload_n dd_L_law_1096 rfl ?_
  refine wp_iconst dd_L_law_1097 (zr_lit rfl) ?_
  refine wp_iaddC dd_L_law_1098 (by omega) ?_
  refine wp_ialdR dd_L_law_1099 kk_1001 (by decide) (by omega) (by omega) ?_
  rw [show (m1 1001 (i + 1) : Int) = mem 1001 (i + 1) from by rw [hs]]
  rw [show (m1 1001 (i + 2) : Int) = mem 1001 (i + 2) from by rw [hs]]
  rw [show (m1 1001 (i + 3) : Int) = mem 1001 (i + 3) from by rw [hs]]
  refine wp_callV (M' := mm_X11_zeros) (As := [zI (mem 1001 (i + 1)), zI (mem 1001 (i + 2)), zI (mem 1001 (i + 3))]) (rest := [zI r]) dd_L_law_1100 lk_L_99 mV_X11_zeros kk_67 (zlt rfl) ⟨_, _, rfl⟩ rfl (by decide) (by decide) (Nat.le_of_ble_eq_true rfl) rfl (rf_zeros  (mem 1001 (i + 1)) (mem 1001 (i + 2)) (mem 1001 (i + 3)) r hI hf (fun m2 hI2 => ?_))
  show zw_Wp l mm_L_law (zS L) 1103 [some (zR 1001), some (zR 0), some (zR 67), some (zI i)] [zI r, zI r] m2 0 0 Q
  refine wp_icmp_eq (tgt := 1789) dd_L_law_1103 (by decide) (fun c1103_1 => ?_) (fun c1103_1 => ?_)
  · skip
    refine ih1789 m2 ?_ ?_
    · assumption
    · omega
  · skip
    exfalso; omega

set_option maxRecDepth 100000 in
set_option maxHeartbeats 4000000 in
theorem lc_lifted {l : Launch} {L : Nat} {mem : zMem} {Q : zQ} (i : Int) (hL : L ≤ 4096) (h0 : 0 ≤ i) (h1 : i + 8 ≤ (L : Int)) (hI : zInv mem) (ih1789 : ∀ mm : zMem, zInv mm → (0 : Int) < 1 → zw_Wp l mm_L_law (zS L) 1789 [some (zR 1001), some (zR 0), some (zR 67), some (zI i)] [] mm 0 0 Q) : zw_Wp l mm_L_law (zS L) 1108 [some (zR 1001), some (zR 0), some (zR 67), some (zI i)] [] mem 0 0 Q := by
  refine wp_aload_n dd_L_law_1108 rfl ?_
  refine wp_aload_n dd_L_law_1109 rfl ?_
  refine wp_iload_n dd_L_law_1110 rfl ?_
  refine wp_iconst dd_L_law_1111 (zr_lit rfl) ?_
  refine wp_iaddC dd_L_law_1112 (by omega) ?_
  refine wp_ialdR dd_L_law_1113 kk_1001 (by decide) (by omega) (by omega) ?_
  refine wp_aload_n dd_L_law_1114 rfl ?_
  refine wp_iload_n dd_L_law_1115 rfl ?_
  refine wp_iconst dd_L_law_1116 (zr_lit rfl) ?_
  refine wp_iaddC dd_L_law_1117 (by omega) ?_
  refine wp_ialdR dd_L_law_1118 kk_1001 (by decide) (by omega) (by omega) ?_
  refine wp_aload_n dd_L_law_1119 rfl ?_
  refine wp_iload_n dd_L_law_1120 rfl ?_
  refine wp_iconst dd_L_law_1121 (zr_lit rfl) ?_
  refine wp_iaddC dd_L_law_1122 (by omega) ?_
  refine wp_ialdR dd_L_law_1123 kk_1001 (by decide) (by omega) (by omega) ?_
  refine wp_callV (M' := mm_X10_lifted) (As := [zI (mem 1001 (i + 1)), zI (mem 1001 (i + 2)), zI (mem 1001 (i + 3))]) (rest := []) dd_L_law_1124 lk_L_100 mV_X10_lifted kk_0 (zlt rfl) ⟨_, _, rfl⟩ rfl (by decide) (by decide) (Nat.le_of_ble_eq_true rfl) rfl (sp_X10_lifted  (mem 1001 (i + 1)) (mem 1001 (i + 2)) (mem 1001 (i + 3)) hI (fun r m1 hf => ?_))
  show zw_Wp l mm_L_law (zS L) 1127 [some (zR 1001), some (zR 0), some (zR 67), some (zI i)] [zI r] m1 0 0 Q
  have hs : m1 1001 = mem 1001 := hf.sc
  refine wp_aload_n dd_L_law_1127 rfl ?_
  refine wp_aload_n dd_L_law_1128 rfl ?_
  refine wp_iload_n dd_L_law_1129 rfl ?_
  refine wp_iconst dd_L_law_1130 (zr_lit rfl) ?_
  refine wp_iaddC dd_L_law_1131 (by omega) ?_
  refine wp_ialdR dd_L_law_1132 kk_1001 (by decide) (by omega) (by omega) ?_
  refine wp_aload_n dd_L_law_1133 rfl ?_
  refine wp_iload_n dd_L_law_1134 rfl ?_
  refine wp_iconst dd_L_law_1135 (zr_lit rfl) ?_
  refine wp_iaddC dd_L_law_1136 (by omega) ?_
  refine wp_ialdR dd_L_law_1137 kk_1001 (by decide) (by omega) (by omega) ?_
  refine wp_aload_n dd_L_law_1138 rfl ?_
  refine wp_iload_n dd_L_law_1139 rfl ?_
  refine wp_iconst dd_L_law_1140 (zr_lit rfl) ?_
  refine wp_iaddC dd_L_law_1141 (by omega) ?_
  refine wp_ialdR dd_L_law_1142 kk_1001 (by decide) (by omega) (by omega) ?_
  rw [show (m1 1001 (i + 1) : Int) = mem 1001 (i + 1) from by rw [hs]]
  rw [show (m1 1001 (i + 2) : Int) = mem 1001 (i + 2) from by rw [hs]]
  rw [show (m1 1001 (i + 3) : Int) = mem 1001 (i + 3) from by rw [hs]]
  refine wp_callV (M' := mm_X11_lifted) (As := [zI (mem 1001 (i + 1)), zI (mem 1001 (i + 2)), zI (mem 1001 (i + 3))]) (rest := [zI r]) dd_L_law_1143 lk_L_103 mV_X11_lifted kk_67 (zlt rfl) ⟨_, _, rfl⟩ rfl (by decide) (by decide) (Nat.le_of_ble_eq_true rfl) rfl (rf_lifted  (mem 1001 (i + 1)) (mem 1001 (i + 2)) (mem 1001 (i + 3)) r hI hf (fun m2 hI2 => ?_))
  show zw_Wp l mm_L_law (zS L) 1146 [some (zR 1001), some (zR 0), some (zR 67), some (zI i)] [zI r, zI r] m2 0 0 Q
  refine wp_icmp_eq (tgt := 1789) dd_L_law_1146 (by decide) (fun c1146_1 => ?_) (fun c1146_1 => ?_)
  · skip
    refine ih1789 m2 ?_ ?_
    · assumption
    · omega
  · skip
    exfalso; omega

set_option maxRecDepth 100000 in
set_option maxHeartbeats 4000000 in
theorem lc_root {l : Launch} {L : Nat} {mem : zMem} {Q : zQ} (i : Int) (hL : L ≤ 4096) (h0 : 0 ≤ i) (h1 : i + 8 ≤ (L : Int)) (hI : zInv mem) (ih1789 : ∀ mm : zMem, zInv mm → (0 : Int) < 1 → zw_Wp l mm_L_law (zS L) 1789 [some (zR 1001), some (zR 0), some (zR 67), some (zI i)] [] mm 0 0 Q) : zw_Wp l mm_L_law (zS L) 1151 [some (zR 1001), some (zR 0), some (zR 67), some (zI i)] [] mem 0 0 Q := by
  refine wp_aload_n dd_L_law_1151 rfl ?_
  refine wp_aload_n dd_L_law_1152 rfl ?_
  refine wp_iload_n dd_L_law_1153 rfl ?_
  refine wp_iconst dd_L_law_1154 (zr_lit rfl) ?_
  refine wp_iaddC dd_L_law_1155 (by omega) ?_
  refine wp_ialdR dd_L_law_1156 kk_1001 (by decide) (by omega) (by omega) ?_
  refine wp_aload_n dd_L_law_1157 rfl ?_
  refine wp_iload_n dd_L_law_1158 rfl ?_
  refine wp_iconst dd_L_law_1159 (zr_lit rfl) ?_
  refine wp_iaddC dd_L_law_1160 (by omega) ?_
  refine wp_ialdR dd_L_law_1161 kk_1001 (by decide) (by omega) (by omega) ?_
  refine wp_aload_n dd_L_law_1162 rfl ?_
  refine wp_iload_n dd_L_law_1163 rfl ?_
  refine wp_iconst dd_L_law_1164 (zr_lit rfl) ?_
  refine wp_iaddC dd_L_law_1165 (by omega) ?_
  refine wp_ialdR dd_L_law_1166 kk_1001 (by decide) (by omega) (by omega) ?_
  refine wp_callV (M' := mm_X10_root) (As := [zI (mem 1001 (i + 1)), zI (mem 1001 (i + 2)), zI (mem 1001 (i + 3))]) (rest := []) dd_L_law_1167 lk_L_104 mV_X10_root kk_0 (zlt rfl) ⟨_, _, rfl⟩ rfl (by decide) (by decide) (Nat.le_of_ble_eq_true rfl) rfl (sp_X10_root  (mem 1001 (i + 1)) (mem 1001 (i + 2)) (mem 1001 (i + 3)) hI (fun r m1 hf => ?_))
  show zw_Wp l mm_L_law (zS L) 1170 [some (zR 1001), some (zR 0), some (zR 67), some (zI i)] [zI r] m1 0 0 Q
  have hs : m1 1001 = mem 1001 := hf.sc
  refine wp_aload_n dd_L_law_1170 rfl ?_
  refine wp_aload_n dd_L_law_1171 rfl ?_
  refine wp_iload_n dd_L_law_1172 rfl ?_
  refine wp_iconst dd_L_law_1173 (zr_lit rfl) ?_
  refine wp_iaddC dd_L_law_1174 (by omega) ?_
  refine wp_ialdR dd_L_law_1175 kk_1001 (by decide) (by omega) (by omega) ?_
  refine wp_aload_n dd_L_law_1176 rfl ?_
  refine wp_iload_n dd_L_law_1177 rfl ?_
  refine wp_iconst dd_L_law_1178 (zr_lit rfl) ?_
  refine wp_iaddC dd_L_law_1179 (by omega) ?_
  refine wp_ialdR dd_L_law_1180 kk_1001 (by decide) (by omega) (by omega) ?_
  refine wp_aload_n dd_L_law_1181 rfl ?_
  refine wp_iload_n dd_L_law_1182 rfl ?_
  refine wp_iconst dd_L_law_1183 (zr_lit rfl) ?_
  refine wp_iaddC dd_L_law_1184 (by omega) ?_
  refine wp_ialdR dd_L_law_1185 kk_1001 (by decide) (by omega) (by omega) ?_
  rw [show (m1 1001 (i + 1) : Int) = mem 1001 (i + 1) from by rw [hs]]
  rw [show (m1 1001 (i + 2) : Int) = mem 1001 (i + 2) from by rw [hs]]
  rw [show (m1 1001 (i + 3) : Int) = mem 1001 (i + 3) from by rw [hs]]
  refine wp_callV (M' := mm_X11_root) (As := [zI (mem 1001 (i + 1)), zI (mem 1001 (i + 2)), zI (mem 1001 (i + 3))]) (rest := [zI r]) dd_L_law_1186 lk_L_107 mV_X11_root kk_67 (zlt rfl) ⟨_, _, rfl⟩ rfl (by decide) (by decide) (Nat.le_of_ble_eq_true rfl) rfl (rf_root  (mem 1001 (i + 1)) (mem 1001 (i + 2)) (mem 1001 (i + 3)) r hI hf (fun m2 hI2 => ?_))
  show zw_Wp l mm_L_law (zS L) 1189 [some (zR 1001), some (zR 0), some (zR 67), some (zI i)] [zI r, zI r] m2 0 0 Q
  refine wp_icmp_eq (tgt := 1789) dd_L_law_1189 (by decide) (fun c1189_1 => ?_) (fun c1189_1 => ?_)
  · skip
    refine ih1789 m2 ?_ ?_
    · assumption
    · omega
  · skip
    exfalso; omega

set_option maxRecDepth 100000 in
set_option maxHeartbeats 4000000 in
theorem lc_without {l : Launch} {L : Nat} {mem : zMem} {Q : zQ} (i : Int) (hL : L ≤ 4096) (h0 : 0 ≤ i) (h1 : i + 8 ≤ (L : Int)) (hI : zInv mem) (ih1789 : ∀ mm : zMem, zInv mm → (0 : Int) < 1 → zw_Wp l mm_L_law (zS L) 1789 [some (zR 1001), some (zR 0), some (zR 67), some (zI i)] [] mm 0 0 Q) : zw_Wp l mm_L_law (zS L) 1194 [some (zR 1001), some (zR 0), some (zR 67), some (zI i)] [] mem 0 0 Q := by
  refine wp_aload_n dd_L_law_1194 rfl ?_
  refine wp_aload_n dd_L_law_1195 rfl ?_
  refine wp_iload_n dd_L_law_1196 rfl ?_
  refine wp_iconst dd_L_law_1197 (zr_lit rfl) ?_
  refine wp_iaddC dd_L_law_1198 (by omega) ?_
  refine wp_ialdR dd_L_law_1199 kk_1001 (by decide) (by omega) (by omega) ?_
  refine wp_aload_n dd_L_law_1200 rfl ?_
  refine wp_iload_n dd_L_law_1201 rfl ?_
  refine wp_iconst dd_L_law_1202 (zr_lit rfl) ?_
  refine wp_iaddC dd_L_law_1203 (by omega) ?_
  refine wp_ialdR dd_L_law_1204 kk_1001 (by decide) (by omega) (by omega) ?_
  refine wp_callV (M' := mm_X10_without) (As := [zI (mem 1001 (i + 1)), zI (mem 1001 (i + 2))]) (rest := []) dd_L_law_1205 lk_L_108 mV_X10_without kk_0 (zlt rfl) ⟨_, _, rfl⟩ rfl (by decide) (by decide) (Nat.le_of_ble_eq_true rfl) rfl (sp_X10_without  (mem 1001 (i + 1)) (mem 1001 (i + 2)) hI (fun r m1 hf => ?_))
  show zw_Wp l mm_L_law (zS L) 1208 [some (zR 1001), some (zR 0), some (zR 67), some (zI i)] [zI r] m1 0 0 Q
  have hs : m1 1001 = mem 1001 := hf.sc
  refine wp_aload_n dd_L_law_1208 rfl ?_
  refine wp_aload_n dd_L_law_1209 rfl ?_
  refine wp_iload_n dd_L_law_1210 rfl ?_
  refine wp_iconst dd_L_law_1211 (zr_lit rfl) ?_
  refine wp_iaddC dd_L_law_1212 (by omega) ?_
  refine wp_ialdR dd_L_law_1213 kk_1001 (by decide) (by omega) (by omega) ?_
  refine wp_aload_n dd_L_law_1214 rfl ?_
  refine wp_iload_n dd_L_law_1215 rfl ?_
  refine wp_iconst dd_L_law_1216 (zr_lit rfl) ?_
  refine wp_iaddC dd_L_law_1217 (by omega) ?_
  refine wp_ialdR dd_L_law_1218 kk_1001 (by decide) (by omega) (by omega) ?_
  rw [show (m1 1001 (i + 1) : Int) = mem 1001 (i + 1) from by rw [hs]]
  rw [show (m1 1001 (i + 2) : Int) = mem 1001 (i + 2) from by rw [hs]]
  refine wp_callV (M' := mm_X11_without) (As := [zI (mem 1001 (i + 1)), zI (mem 1001 (i + 2))]) (rest := [zI r]) dd_L_law_1219 lk_L_111 mV_X11_without kk_67 (zlt rfl) ⟨_, _, rfl⟩ rfl (by decide) (by decide) (Nat.le_of_ble_eq_true rfl) rfl (rf_without  (mem 1001 (i + 1)) (mem 1001 (i + 2)) r hI hf (fun m2 hI2 => ?_))
  show zw_Wp l mm_L_law (zS L) 1222 [some (zR 1001), some (zR 0), some (zR 67), some (zI i)] [zI r, zI r] m2 0 0 Q
  refine wp_icmp_eq (tgt := 1789) dd_L_law_1222 (by decide) (fun c1222_1 => ?_) (fun c1222_1 => ?_)
  · skip
    refine ih1789 m2 ?_ ?_
    · assumption
    · omega
  · skip
    exfalso; omega

set_option maxRecDepth 100000 in
set_option maxHeartbeats 4000000 in
theorem lc_corner {l : Launch} {L : Nat} {mem : zMem} {Q : zQ} (i : Int) (hL : L ≤ 4096) (h0 : 0 ≤ i) (h1 : i + 8 ≤ (L : Int)) (hI : zInv mem) (ih1789 : ∀ mm : zMem, zInv mm → (0 : Int) < 1 → zw_Wp l mm_L_law (zS L) 1789 [some (zR 1001), some (zR 0), some (zR 67), some (zI i)] [] mm 0 0 Q) : zw_Wp l mm_L_law (zS L) 1227 [some (zR 1001), some (zR 0), some (zR 67), some (zI i)] [] mem 0 0 Q := by
  refine wp_aload_n dd_L_law_1227 rfl ?_
  refine wp_aload_n dd_L_law_1228 rfl ?_
  refine wp_iload_n dd_L_law_1229 rfl ?_
  refine wp_iconst dd_L_law_1230 (zr_lit rfl) ?_
  refine wp_iaddC dd_L_law_1231 (by omega) ?_
  refine wp_ialdR dd_L_law_1232 kk_1001 (by decide) (by omega) (by omega) ?_
  refine wp_aload_n dd_L_law_1233 rfl ?_
  refine wp_iload_n dd_L_law_1234 rfl ?_
  refine wp_iconst dd_L_law_1235 (zr_lit rfl) ?_
  refine wp_iaddC dd_L_law_1236 (by omega) ?_
  refine wp_ialdR dd_L_law_1237 kk_1001 (by decide) (by omega) (by omega) ?_
  refine wp_callV (M' := mm_X10_corner) (As := [zI (mem 1001 (i + 1)), zI (mem 1001 (i + 2))]) (rest := []) dd_L_law_1238 lk_L_112 mV_X10_corner kk_0 (zlt rfl) ⟨_, _, rfl⟩ rfl (by decide) (by decide) (Nat.le_of_ble_eq_true rfl) rfl (sp_X10_corner  (mem 1001 (i + 1)) (mem 1001 (i + 2)) hI (fun r m1 f n hf hH => ?_))
  show zw_Wp l mm_L_law (zS L) 1241 [some (zR 1001), some (zR 0), some (zR 67), some (zI i)] [zI r] m1 0 0 Q
  have hs : m1 1001 = mem 1001 := hf.sc
  refine wp_aload_n dd_L_law_1241 rfl ?_
  refine wp_aload_n dd_L_law_1242 rfl ?_
  refine wp_iload_n dd_L_law_1243 rfl ?_
  refine wp_iconst dd_L_law_1244 (zr_lit rfl) ?_
  refine wp_iaddC dd_L_law_1245 (by omega) ?_
  refine wp_ialdR dd_L_law_1246 kk_1001 (by decide) (by omega) (by omega) ?_
  refine wp_aload_n dd_L_law_1247 rfl ?_
  refine wp_iload_n dd_L_law_1248 rfl ?_
  refine wp_iconst dd_L_law_1249 (zr_lit rfl) ?_
  refine wp_iaddC dd_L_law_1250 (by omega) ?_
  refine wp_ialdR dd_L_law_1251 kk_1001 (by decide) (by omega) (by omega) ?_
  rw [show (m1 1001 (i + 1) : Int) = mem 1001 (i + 1) from by rw [hs]]
  rw [show (m1 1001 (i + 2) : Int) = mem 1001 (i + 2) from by rw [hs]]
  refine wp_callV (M' := mm_X11_corner) (As := [zI (mem 1001 (i + 1)), zI (mem 1001 (i + 2))]) (rest := [zI r]) dd_L_law_1252 lk_L_115 mV_X11_corner kk_67 (zlt rfl) ⟨_, _, rfl⟩ rfl (by decide) (by decide) (Nat.le_of_ble_eq_true rfl) rfl (rf_corner  (mem 1001 (i + 1)) (mem 1001 (i + 2)) f n r hI hH hf (fun m2 hI2 => ?_))
  show zw_Wp l mm_L_law (zS L) 1255 [some (zR 1001), some (zR 0), some (zR 67), some (zI i)] [zI r, zI r] m2 0 0 Q
  refine wp_icmp_eq (tgt := 1789) dd_L_law_1255 (by decide) (fun c1255_1 => ?_) (fun c1255_1 => ?_)
  · skip
    refine ih1789 m2 ?_ ?_
    · assumption
    · omega
  · skip
    exfalso; omega

set_option maxRecDepth 100000 in
set_option maxHeartbeats 4000000 in
theorem lc_area {l : Launch} {L : Nat} {mem : zMem} {Q : zQ} (i : Int) (hL : L ≤ 4096) (h0 : 0 ≤ i) (h1 : i + 8 ≤ (L : Int)) (hI : zInv mem) (ih1789 : ∀ mm : zMem, zInv mm → (0 : Int) < 1 → zw_Wp l mm_L_law (zS L) 1789 [some (zR 1001), some (zR 0), some (zR 67), some (zI i)] [] mm 0 0 Q) : zw_Wp l mm_L_law (zS L) 1260 [some (zR 1001), some (zR 0), some (zR 67), some (zI i)] [] mem 0 0 Q := by
  refine wp_aload_n dd_L_law_1260 rfl ?_
  refine wp_aload_n dd_L_law_1261 rfl ?_
  refine wp_iload_n dd_L_law_1262 rfl ?_
  refine wp_iconst dd_L_law_1263 (zr_lit rfl) ?_
  refine wp_iaddC dd_L_law_1264 (by omega) ?_
  refine wp_ialdR dd_L_law_1265 kk_1001 (by decide) (by omega) (by omega) ?_
  refine wp_callV (M' := mm_X10_area) (As := [zI (mem 1001 (i + 1))]) (rest := []) dd_L_law_1266 lk_L_116 mV_X10_area kk_0 (zlt rfl) ⟨_, _, rfl⟩ rfl (by decide) (by decide) (Nat.le_of_ble_eq_true rfl) rfl (sp_X10_area  (mem 1001 (i + 1)) hI (fun r m1 f n hf hH => ?_))
  show zw_Wp l mm_L_law (zS L) 1269 [some (zR 1001), some (zR 0), some (zR 67), some (zI i)] [zI r] m1 0 0 Q
  have hs : m1 1001 = mem 1001 := hf.sc
  refine wp_aload_n dd_L_law_1269 rfl ?_
  refine wp_aload_n dd_L_law_1270 rfl ?_
  refine wp_iload_n dd_L_law_1271 rfl ?_
  refine wp_iconst dd_L_law_1272 (zr_lit rfl) ?_
  refine wp_iaddC dd_L_law_1273 (by omega) ?_
  refine wp_ialdR dd_L_law_1274 kk_1001 (by decide) (by omega) (by omega) ?_
  rw [show (m1 1001 (i + 1) : Int) = mem 1001 (i + 1) from by rw [hs]]
  refine wp_callV (M' := mm_X11_area) (As := [zI (mem 1001 (i + 1))]) (rest := [zI r]) dd_L_law_1275 lk_L_119 mV_X11_area kk_67 (zlt rfl) ⟨_, _, rfl⟩ rfl (by decide) (by decide) (Nat.le_of_ble_eq_true rfl) rfl (rf_area  (mem 1001 (i + 1)) f n r hI hH hf (fun m2 hI2 => ?_))
  show zw_Wp l mm_L_law (zS L) 1278 [some (zR 1001), some (zR 0), some (zR 67), some (zI i)] [zI r, zI r] m2 0 0 Q
  refine wp_icmp_eq (tgt := 1789) dd_L_law_1278 (by decide) (fun c1278_1 => ?_) (fun c1278_1 => ?_)
  · skip
    refine ih1789 m2 ?_ ?_
    · assumption
    · omega
  · skip
    exfalso; omega

set_option maxRecDepth 100000 in
set_option maxHeartbeats 4000000 in
theorem lc_sum {l : Launch} {L : Nat} {mem : zMem} {Q : zQ} (i : Int) (hL : L ≤ 4096) (h0 : 0 ≤ i) (h1 : i + 8 ≤ (L : Int)) (hI : zInv mem) (ih1789 : ∀ mm : zMem, zInv mm → (0 : Int) < 1 → zw_Wp l mm_L_law (zS L) 1789 [some (zR 1001), some (zR 0), some (zR 67), some (zI i)] [] mm 0 0 Q) : zw_Wp l mm_L_law (zS L) 1283 [some (zR 1001), some (zR 0), some (zR 67), some (zI i)] [] mem 0 0 Q := by
  refine wp_aload_n dd_L_law_1283 rfl ?_
  refine wp_aload_n dd_L_law_1284 rfl ?_
  refine wp_iload_n dd_L_law_1285 rfl ?_
  refine wp_iconst dd_L_law_1286 (zr_lit rfl) ?_
  refine wp_iaddC dd_L_law_1287 (by omega) ?_
  refine wp_ialdR dd_L_law_1288 kk_1001 (by decide) (by omega) (by omega) ?_
  refine wp_aload_n dd_L_law_1289 rfl ?_
  refine wp_iload_n dd_L_law_1290 rfl ?_
  refine wp_iconst dd_L_law_1291 (zr_lit rfl) ?_
  refine wp_iaddC dd_L_law_1292 (by omega) ?_
  refine wp_ialdR dd_L_law_1293 kk_1001 (by decide) (by omega) (by omega) ?_
  refine wp_aload_n dd_L_law_1294 rfl ?_
  refine wp_iload_n dd_L_law_1295 rfl ?_
  refine wp_iconst dd_L_law_1296 (zr_lit rfl) ?_
  refine wp_iaddC dd_L_law_1297 (by omega) ?_
  refine wp_ialdR dd_L_law_1298 kk_1001 (by decide) (by omega) (by omega) ?_
  refine wp_callV (M' := mm_X10_sum) (As := [zI (mem 1001 (i + 1)), zI (mem 1001 (i + 2)), zI (mem 1001 (i + 3))]) (rest := []) dd_L_law_1299 lk_L_120 mV_X10_sum kk_0 (zlt rfl) ⟨_, _, rfl⟩ rfl (by decide) (by decide) (Nat.le_of_ble_eq_true rfl) rfl (sp_X10_sum  (mem 1001 (i + 1)) (mem 1001 (i + 2)) (mem 1001 (i + 3)) hI (fun r m1 f n hf hH => ?_))
  show zw_Wp l mm_L_law (zS L) 1302 [some (zR 1001), some (zR 0), some (zR 67), some (zI i)] [zI r] m1 0 0 Q
  have hs : m1 1001 = mem 1001 := hf.sc
  refine wp_aload_n dd_L_law_1302 rfl ?_
  refine wp_aload_n dd_L_law_1303 rfl ?_
  refine wp_iload_n dd_L_law_1304 rfl ?_
  refine wp_iconst dd_L_law_1305 (zr_lit rfl) ?_
  refine wp_iaddC dd_L_law_1306 (by omega) ?_
  refine wp_ialdR dd_L_law_1307 kk_1001 (by decide) (by omega) (by omega) ?_
  refine wp_aload_n dd_L_law_1308 rfl ?_
  refine wp_iload_n dd_L_law_1309 rfl ?_
  refine wp_iconst dd_L_law_1310 (zr_lit rfl) ?_
  refine wp_iaddC dd_L_law_1311 (by omega) ?_
  refine wp_ialdR dd_L_law_1312 kk_1001 (by decide) (by omega) (by omega) ?_
  refine wp_aload_n dd_L_law_1313 rfl ?_
  refine wp_iload_n dd_L_law_1314 rfl ?_
  refine wp_iconst dd_L_law_1315 (zr_lit rfl) ?_
  refine wp_iaddC dd_L_law_1316 (by omega) ?_
  refine wp_ialdR dd_L_law_1317 kk_1001 (by decide) (by omega) (by omega) ?_
  rw [show (m1 1001 (i + 1) : Int) = mem 1001 (i + 1) from by rw [hs]]
  rw [show (m1 1001 (i + 2) : Int) = mem 1001 (i + 2) from by rw [hs]]
  rw [show (m1 1001 (i + 3) : Int) = mem 1001 (i + 3) from by rw [hs]]
  refine wp_callV (M' := mm_X11_sum) (As := [zI (mem 1001 (i + 1)), zI (mem 1001 (i + 2)), zI (mem 1001 (i + 3))]) (rest := [zI r]) dd_L_law_1318 lk_L_123 mV_X11_sum kk_67 (zlt rfl) ⟨_, _, rfl⟩ rfl (by decide) (by decide) (Nat.le_of_ble_eq_true rfl) rfl (rf_sum  (mem 1001 (i + 1)) (mem 1001 (i + 2)) (mem 1001 (i + 3)) f n r hI hH hf (fun m2 hI2 => ?_))
  show zw_Wp l mm_L_law (zS L) 1321 [some (zR 1001), some (zR 0), some (zR 67), some (zI i)] [zI r, zI r] m2 0 0 Q
  refine wp_icmp_eq (tgt := 1789) dd_L_law_1321 (by decide) (fun c1321_1 => ?_) (fun c1321_1 => ?_)
  · skip
    refine ih1789 m2 ?_ ?_
    · assumption
    · omega
  · skip
    exfalso; omega

