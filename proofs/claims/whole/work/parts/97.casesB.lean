set_option maxHeartbeats 800000 in
set_option maxRecDepth 100000 in
theorem L_result (g : zG) (b L n0 : Nat) (xs : Nat → Int32) (nm : String) (hg : g.2.2.2 = n0) (hL : L ≤ 3072) (x m : Nat) (w : sW) (H : zH) (hI : LI x m w H) (i : Nat) (hi : i + 6 ≤ L) (ce sl : Nat) (hce : ce ≤ 500000) (hsl : sl ≤ 7000000) (K : ∀ (H' : zH) (w' : sW), LI x m w' H' → zZ g (YL b L n0 xs nm) QL 1286 [(3, .int (nI i)), (2, .ref m), (1, .ref x), (0, .ref b)] [] H' (ce + 35) (sl + 1018)) : zZ g (YL b L n0 xs nm) QL 791 [(3, .int (nI i)), (2, .ref m), (1, .ref x), (0, .ref b)] [] H ce sl := by
  refine z_aload_n dL_law_791 rfl rfl ?_
  refine z_aload_n dL_law_792 rfl rfl ?_
  refine z_iload_n dL_law_793 rfl rfl ?_
  refine z_iconst (v := nI 1) dL_law_794 rfl (by decide) ?_
  refine z_iadd dL_law_795 rfl ?_
  refine z_sld hg dL_law_796 rfl (in_j 1 (by decide) hi hL) ?_
  obtain ⟨hC, S, hS, hM⟩ := id hI
  obtain ⟨fs, hx⟩ := RepC_x hC
  refine zc_L_84 rfl dL_law_797 rfl hx (C_result g H x m w hC _) rfl rfl ⟨(Nat.le_of_ble_eq_true rfl), (Nat.le_of_ble_eq_true rfl)⟩ ⟨by show ce + 0 ≤ 600000; omega, by show sl + 0 ≤ 7302250; omega⟩ (Nat.le_of_ble_eq_true rfl) (fun v1 h1 e1 => ?_)
  obtain ⟨rfl, hC1, hk1⟩ := e1
  refine zZ_h (mUp m S h1) (mUp_kept hS hk1) ?_
  refine z_aload_n dL_law_800 rfl rfl ?_
  refine z_aload_n dL_law_801 rfl rfl ?_
  refine z_iload_n dL_law_802 rfl rfl ?_
  refine z_iconst (v := nI 1) dL_law_803 rfl (by decide) ?_
  refine z_iadd dL_law_804 rfl ?_
  refine z_sld hg dL_law_805 rfl (in_j 1 (by decide) hi hL) ?_
  refine zc_L_87 rfl dL_law_806 rfl mo_recv (R_result g h1 m S w hM _) rfl rfl ⟨(Nat.le_of_ble_eq_true rfl), (Nat.le_of_ble_eq_true rfl)⟩ ⟨by show ce + 0 + 0 ≤ 600000; omega, by show sl + 0 + 0 ≤ 7302250; omega⟩ (Nat.le_of_ble_eq_true rfl) (fun v2 h2 e2 => ?_)
  obtain ⟨S2, rfl, rfl, hM2⟩ := e2
  exact z_icmp_eq (tgt := 1286) dL_law_809 rfl (by decide) (fun _ => z_widen (by show ce + 0 + 0 ≤ ce + 35; omega) (by show sl + 0 + 0 ≤ sl + 1018; omega) (K _ _ ⟨RepC_m S2 hC1, S2, (mUp_mUp _ _ _ _).symm, hM2⟩)) (fun c => absurd rfl c)

set_option maxHeartbeats 800000 in
set_option maxRecDepth 100000 in
theorem L_step (g : zG) (b L n0 : Nat) (xs : Nat → Int32) (nm : String) (hg : g.2.2.2 = n0) (hL : L ≤ 3072) (x m : Nat) (w : sW) (H : zH) (hI : LI x m w H) (i : Nat) (hi : i + 6 ≤ L) (ce sl : Nat) (hce : ce ≤ 500000) (hsl : sl ≤ 7000000) (K : ∀ (H' : zH) (w' : sW), LI x m w' H' → zZ g (YL b L n0 xs nm) QL 1286 [(3, .int (nI i)), (2, .ref m), (1, .ref x), (0, .ref b)] [] H' (ce + 35) (sl + 1018)) : zZ g (YL b L n0 xs nm) QL 814 [(3, .int (nI i)), (2, .ref m), (1, .ref x), (0, .ref b)] [] H ce sl := by
  refine z_aload_n dL_law_814 rfl rfl ?_
  refine z_aload_n dL_law_815 rfl rfl ?_
  refine z_iload_n dL_law_816 rfl rfl ?_
  refine z_iconst (v := nI 1) dL_law_817 rfl (by decide) ?_
  refine z_iadd dL_law_818 rfl ?_
  refine z_sld hg dL_law_819 rfl (in_j 1 (by decide) hi hL) ?_
  refine z_aload_n dL_law_820 rfl rfl ?_
  refine z_iload_n dL_law_821 rfl rfl ?_
  refine z_iconst (v := nI 2) dL_law_822 rfl (by decide) ?_
  refine z_iadd dL_law_823 rfl ?_
  refine z_sld hg dL_law_824 rfl (in_j 2 (by decide) hi hL) ?_
  obtain ⟨hC, S, hS, hM⟩ := id hI
  obtain ⟨fs, hx⟩ := RepC_x hC
  refine zc_L_88 rfl dL_law_825 rfl hx (C_step g H x m w hC _ _) rfl rfl ⟨(Nat.le_of_ble_eq_true rfl), (Nat.le_of_ble_eq_true rfl)⟩ ⟨by show ce + 0 ≤ 600000; omega, by show sl + 0 ≤ 7302250; omega⟩ (Nat.le_of_ble_eq_true rfl) (fun v1 h1 e1 => ?_)
  obtain ⟨rfl, hC1, hk1⟩ := e1
  refine zZ_h (mUp m S h1) (mUp_kept hS hk1) ?_
  refine z_aload_n dL_law_828 rfl rfl ?_
  refine z_aload_n dL_law_829 rfl rfl ?_
  refine z_iload_n dL_law_830 rfl rfl ?_
  refine z_iconst (v := nI 1) dL_law_831 rfl (by decide) ?_
  refine z_iadd dL_law_832 rfl ?_
  refine z_sld hg dL_law_833 rfl (in_j 1 (by decide) hi hL) ?_
  refine z_aload_n dL_law_834 rfl rfl ?_
  refine z_iload_n dL_law_835 rfl rfl ?_
  refine z_iconst (v := nI 2) dL_law_836 rfl (by decide) ?_
  refine z_iadd dL_law_837 rfl ?_
  refine z_sld hg dL_law_838 rfl (in_j 2 (by decide) hi hL) ?_
  refine zc_L_91 rfl dL_law_839 rfl mo_recv (R_step g h1 m S w hM _ _) rfl rfl ⟨(Nat.le_of_ble_eq_true rfl), (Nat.le_of_ble_eq_true rfl)⟩ ⟨by show ce + 0 + 0 ≤ 600000; omega, by show sl + 0 + 0 ≤ 7302250; omega⟩ (Nat.le_of_ble_eq_true rfl) (fun v2 h2 e2 => ?_)
  obtain ⟨S2, rfl, rfl, hM2⟩ := e2
  exact z_icmp_eq (tgt := 1286) dL_law_842 rfl (by decide) (fun _ => z_widen (by show ce + 0 + 0 ≤ ce + 35; omega) (by show sl + 0 + 0 ≤ sl + 1018; omega) (K _ _ ⟨RepC_m S2 hC1, S2, (mUp_mUp _ _ _ _).symm, hM2⟩)) (fun c => absurd rfl c)

set_option maxHeartbeats 800000 in
set_option maxRecDepth 100000 in
theorem L_join (g : zG) (b L n0 : Nat) (xs : Nat → Int32) (nm : String) (hg : g.2.2.2 = n0) (hL : L ≤ 3072) (x m : Nat) (w : sW) (H : zH) (hI : LI x m w H) (i : Nat) (hi : i + 6 ≤ L) (ce sl : Nat) (hce : ce ≤ 500000) (hsl : sl ≤ 7000000) (K : ∀ (H' : zH) (w' : sW), LI x m w' H' → zZ g (YL b L n0 xs nm) QL 1286 [(3, .int (nI i)), (2, .ref m), (1, .ref x), (0, .ref b)] [] H' (ce + 35) (sl + 1018)) : zZ g (YL b L n0 xs nm) QL 847 [(3, .int (nI i)), (2, .ref m), (1, .ref x), (0, .ref b)] [] H ce sl := by
  refine z_aload_n dL_law_847 rfl rfl ?_
  refine z_aload_n dL_law_848 rfl rfl ?_
  refine z_iload_n dL_law_849 rfl rfl ?_
  refine z_iconst (v := nI 1) dL_law_850 rfl (by decide) ?_
  refine z_iadd dL_law_851 rfl ?_
  refine z_sld hg dL_law_852 rfl (in_j 1 (by decide) hi hL) ?_
  refine z_aload_n dL_law_853 rfl rfl ?_
  refine z_iload_n dL_law_854 rfl rfl ?_
  refine z_iconst (v := nI 2) dL_law_855 rfl (by decide) ?_
  refine z_iadd dL_law_856 rfl ?_
  refine z_sld hg dL_law_857 rfl (in_j 2 (by decide) hi hL) ?_
  obtain ⟨hC, S, hS, hM⟩ := id hI
  obtain ⟨fs, hx⟩ := RepC_x hC
  refine zc_L_92 rfl dL_law_858 rfl hx (C_join g H x m w hC _ _) rfl rfl ⟨(Nat.le_of_ble_eq_true rfl), (Nat.le_of_ble_eq_true rfl)⟩ ⟨by show ce + 4 ≤ 600000; omega, by show sl + 125 ≤ 7302250; omega⟩ (Nat.le_of_ble_eq_true rfl) (fun v1 h1 e1 => ?_)
  obtain ⟨rfl, hC1, hk1⟩ := e1
  refine zZ_h (mUp m S h1) (mUp_kept hS hk1) ?_
  refine z_aload_n dL_law_861 rfl rfl ?_
  refine z_aload_n dL_law_862 rfl rfl ?_
  refine z_iload_n dL_law_863 rfl rfl ?_
  refine z_iconst (v := nI 1) dL_law_864 rfl (by decide) ?_
  refine z_iadd dL_law_865 rfl ?_
  refine z_sld hg dL_law_866 rfl (in_j 1 (by decide) hi hL) ?_
  refine z_aload_n dL_law_867 rfl rfl ?_
  refine z_iload_n dL_law_868 rfl rfl ?_
  refine z_iconst (v := nI 2) dL_law_869 rfl (by decide) ?_
  refine z_iadd dL_law_870 rfl ?_
  refine z_sld hg dL_law_871 rfl (in_j 2 (by decide) hi hL) ?_
  refine zc_L_95 rfl dL_law_872 rfl mo_recv (R_join g h1 m S w hM _ _) rfl rfl ⟨(Nat.le_of_ble_eq_true rfl), (Nat.le_of_ble_eq_true rfl)⟩ ⟨by show ce + 4 + 0 ≤ 600000; omega, by show sl + 125 + 0 ≤ 7302250; omega⟩ (Nat.le_of_ble_eq_true rfl) (fun v2 h2 e2 => ?_)
  obtain ⟨S2, rfl, rfl, hM2⟩ := e2
  exact z_icmp_eq (tgt := 1286) dL_law_875 rfl (by decide) (fun _ => z_widen (by show ce + 4 + 0 ≤ ce + 35; omega) (by show sl + 125 + 0 ≤ sl + 1018; omega) (K _ _ ⟨RepC_m S2 hC1, S2, (mUp_mUp _ _ _ _).symm, hM2⟩)) (fun c => absurd rfl c)

set_option maxHeartbeats 800000 in
set_option maxRecDepth 100000 in
theorem L_near (g : zG) (b L n0 : Nat) (xs : Nat → Int32) (nm : String) (hg : g.2.2.2 = n0) (hL : L ≤ 3072) (x m : Nat) (w : sW) (H : zH) (hI : LI x m w H) (i : Nat) (hi : i + 6 ≤ L) (ce sl : Nat) (hce : ce ≤ 500000) (hsl : sl ≤ 7000000) (K : ∀ (H' : zH) (w' : sW), LI x m w' H' → zZ g (YL b L n0 xs nm) QL 1286 [(3, .int (nI i)), (2, .ref m), (1, .ref x), (0, .ref b)] [] H' (ce + 35) (sl + 1018)) : zZ g (YL b L n0 xs nm) QL 880 [(3, .int (nI i)), (2, .ref m), (1, .ref x), (0, .ref b)] [] H ce sl := by
  refine z_aload_n dL_law_880 rfl rfl ?_
  refine z_aload_n dL_law_881 rfl rfl ?_
  refine z_iload_n dL_law_882 rfl rfl ?_
  refine z_iconst (v := nI 1) dL_law_883 rfl (by decide) ?_
  refine z_iadd dL_law_884 rfl ?_
  refine z_sld hg dL_law_885 rfl (in_j 1 (by decide) hi hL) ?_
  obtain ⟨hC, S, hS, hM⟩ := id hI
  obtain ⟨fs, hx⟩ := RepC_x hC
  refine zc_L_96 rfl dL_law_886 rfl hx (C_near g H x m w hC _) rfl rfl ⟨(Nat.le_of_ble_eq_true rfl), (Nat.le_of_ble_eq_true rfl)⟩ ⟨by show ce + 0 ≤ 600000; omega, by show sl + 0 ≤ 7302250; omega⟩ (Nat.le_of_ble_eq_true rfl) (fun v1 h1 e1 => ?_)
  obtain ⟨rfl, hC1, hk1⟩ := e1
  refine zZ_h (mUp m S h1) (mUp_kept hS hk1) ?_
  refine z_aload_n dL_law_889 rfl rfl ?_
  refine z_aload_n dL_law_890 rfl rfl ?_
  refine z_iload_n dL_law_891 rfl rfl ?_
  refine z_iconst (v := nI 1) dL_law_892 rfl (by decide) ?_
  refine z_iadd dL_law_893 rfl ?_
  refine z_sld hg dL_law_894 rfl (in_j 1 (by decide) hi hL) ?_
  refine zc_L_99 rfl dL_law_895 rfl mo_recv (R_near g h1 m S w hM _) rfl rfl ⟨(Nat.le_of_ble_eq_true rfl), (Nat.le_of_ble_eq_true rfl)⟩ ⟨by show ce + 0 + 0 ≤ 600000; omega, by show sl + 0 + 0 ≤ 7302250; omega⟩ (Nat.le_of_ble_eq_true rfl) (fun v2 h2 e2 => ?_)
  obtain ⟨S2, rfl, rfl, hM2⟩ := e2
  exact z_icmp_eq (tgt := 1286) dL_law_898 rfl (by decide) (fun _ => z_widen (by show ce + 0 + 0 ≤ ce + 35; omega) (by show sl + 0 + 0 ≤ sl + 1018; omega) (K _ _ ⟨RepC_m S2 hC1, S2, (mUp_mUp _ _ _ _).symm, hM2⟩)) (fun c => absurd rfl c)

set_option maxHeartbeats 800000 in
set_option maxRecDepth 100000 in
theorem L_lag (g : zG) (b L n0 : Nat) (xs : Nat → Int32) (nm : String) (hg : g.2.2.2 = n0) (hL : L ≤ 3072) (x m : Nat) (w : sW) (H : zH) (hI : LI x m w H) (i : Nat) (hi : i + 6 ≤ L) (ce sl : Nat) (hce : ce ≤ 500000) (hsl : sl ≤ 7000000) (K : ∀ (H' : zH) (w' : sW), LI x m w' H' → zZ g (YL b L n0 xs nm) QL 1286 [(3, .int (nI i)), (2, .ref m), (1, .ref x), (0, .ref b)] [] H' (ce + 35) (sl + 1018)) : zZ g (YL b L n0 xs nm) QL 903 [(3, .int (nI i)), (2, .ref m), (1, .ref x), (0, .ref b)] [] H ce sl := by
  refine z_aload_n dL_law_903 rfl rfl ?_
  refine z_aload_n dL_law_904 rfl rfl ?_
  refine z_iload_n dL_law_905 rfl rfl ?_
  refine z_iconst (v := nI 1) dL_law_906 rfl (by decide) ?_
  refine z_iadd dL_law_907 rfl ?_
  refine z_sld hg dL_law_908 rfl (in_j 1 (by decide) hi hL) ?_
  refine z_aload_n dL_law_909 rfl rfl ?_
  refine z_iload_n dL_law_910 rfl rfl ?_
  refine z_iconst (v := nI 2) dL_law_911 rfl (by decide) ?_
  refine z_iadd dL_law_912 rfl ?_
  refine z_sld hg dL_law_913 rfl (in_j 2 (by decide) hi hL) ?_
  obtain ⟨hC, S, hS, hM⟩ := id hI
  obtain ⟨fs, hx⟩ := RepC_x hC
  refine zc_L_100 rfl dL_law_914 rfl hx (C_lag g H x m w hC _ _) rfl rfl ⟨(Nat.le_of_ble_eq_true rfl), (Nat.le_of_ble_eq_true rfl)⟩ ⟨by show ce + 0 ≤ 600000; omega, by show sl + 0 ≤ 7302250; omega⟩ (Nat.le_of_ble_eq_true rfl) (fun v1 h1 e1 => ?_)
  obtain ⟨rfl, hC1, hk1⟩ := e1
  refine zZ_h (mUp m S h1) (mUp_kept hS hk1) ?_
  refine z_aload_n dL_law_917 rfl rfl ?_
  refine z_aload_n dL_law_918 rfl rfl ?_
  refine z_iload_n dL_law_919 rfl rfl ?_
  refine z_iconst (v := nI 1) dL_law_920 rfl (by decide) ?_
  refine z_iadd dL_law_921 rfl ?_
  refine z_sld hg dL_law_922 rfl (in_j 1 (by decide) hi hL) ?_
  refine z_aload_n dL_law_923 rfl rfl ?_
  refine z_iload_n dL_law_924 rfl rfl ?_
  refine z_iconst (v := nI 2) dL_law_925 rfl (by decide) ?_
  refine z_iadd dL_law_926 rfl ?_
  refine z_sld hg dL_law_927 rfl (in_j 2 (by decide) hi hL) ?_
  refine zc_L_103 rfl dL_law_928 rfl mo_recv (R_lag g h1 m S w hM _ _) rfl rfl ⟨(Nat.le_of_ble_eq_true rfl), (Nat.le_of_ble_eq_true rfl)⟩ ⟨by show ce + 0 + 0 ≤ 600000; omega, by show sl + 0 + 0 ≤ 7302250; omega⟩ (Nat.le_of_ble_eq_true rfl) (fun v2 h2 e2 => ?_)
  obtain ⟨S2, rfl, rfl, hM2⟩ := e2
  exact z_icmp_eq (tgt := 1286) dL_law_931 rfl (by decide) (fun _ => z_widen (by show ce + 0 + 0 ≤ ce + 35; omega) (by show sl + 0 + 0 ≤ sl + 1018; omega) (K _ _ ⟨RepC_m S2 hC1, S2, (mUp_mUp _ _ _ _).symm, hM2⟩)) (fun c => absurd rfl c)

set_option maxHeartbeats 800000 in
set_option maxRecDepth 100000 in
theorem L_vote (g : zG) (b L n0 : Nat) (xs : Nat → Int32) (nm : String) (hg : g.2.2.2 = n0) (hL : L ≤ 3072) (x m : Nat) (w : sW) (H : zH) (hI : LI x m w H) (i : Nat) (hi : i + 6 ≤ L) (ce sl : Nat) (hce : ce ≤ 500000) (hsl : sl ≤ 7000000) (K : ∀ (H' : zH) (w' : sW), LI x m w' H' → zZ g (YL b L n0 xs nm) QL 1286 [(3, .int (nI i)), (2, .ref m), (1, .ref x), (0, .ref b)] [] H' (ce + 35) (sl + 1018)) : zZ g (YL b L n0 xs nm) QL 936 [(3, .int (nI i)), (2, .ref m), (1, .ref x), (0, .ref b)] [] H ce sl := by
  refine z_aload_n dL_law_936 rfl rfl ?_
  refine z_aload_n dL_law_937 rfl rfl ?_
  refine z_iload_n dL_law_938 rfl rfl ?_
  refine z_iconst (v := nI 1) dL_law_939 rfl (by decide) ?_
  refine z_iadd dL_law_940 rfl ?_
  refine z_sld hg dL_law_941 rfl (in_j 1 (by decide) hi hL) ?_
  refine z_aload_n dL_law_942 rfl rfl ?_
  refine z_iload_n dL_law_943 rfl rfl ?_
  refine z_iconst (v := nI 2) dL_law_944 rfl (by decide) ?_
  refine z_iadd dL_law_945 rfl ?_
  refine z_sld hg dL_law_946 rfl (in_j 2 (by decide) hi hL) ?_
  refine z_aload_n dL_law_947 rfl rfl ?_
  refine z_iload_n dL_law_948 rfl rfl ?_
  refine z_iconst (v := nI 3) dL_law_949 rfl (by decide) ?_
  refine z_iadd dL_law_950 rfl ?_
  refine z_sld hg dL_law_951 rfl (in_j 3 (by decide) hi hL) ?_
  refine z_aload_n dL_law_952 rfl rfl ?_
  refine z_iload_n dL_law_953 rfl rfl ?_
  refine z_iconst (v := nI 4) dL_law_954 rfl (by decide) ?_
  refine z_iadd dL_law_955 rfl ?_
  refine z_sld hg dL_law_956 rfl (in_j 4 (by decide) hi hL) ?_
  obtain ⟨hC, S, hS, hM⟩ := id hI
  obtain ⟨fs, hx⟩ := RepC_x hC
  refine zc_L_104 rfl dL_law_957 rfl hx (C_vote g H x m w hC _ _ _ _) rfl rfl ⟨(Nat.le_of_ble_eq_true rfl), (Nat.le_of_ble_eq_true rfl)⟩ ⟨by show ce + 4 ≤ 600000; omega, by show sl + 125 ≤ 7302250; omega⟩ (Nat.le_of_ble_eq_true rfl) (fun v1 h1 e1 => ?_)
  obtain ⟨rfl, hC1, hk1⟩ := e1
  refine zZ_h (mUp m S h1) (mUp_kept hS hk1) ?_
  refine z_aload_n dL_law_960 rfl rfl ?_
  refine z_aload_n dL_law_961 rfl rfl ?_
  refine z_iload_n dL_law_962 rfl rfl ?_
  refine z_iconst (v := nI 1) dL_law_963 rfl (by decide) ?_
  refine z_iadd dL_law_964 rfl ?_
  refine z_sld hg dL_law_965 rfl (in_j 1 (by decide) hi hL) ?_
  refine z_aload_n dL_law_966 rfl rfl ?_
  refine z_iload_n dL_law_967 rfl rfl ?_
  refine z_iconst (v := nI 2) dL_law_968 rfl (by decide) ?_
  refine z_iadd dL_law_969 rfl ?_
  refine z_sld hg dL_law_970 rfl (in_j 2 (by decide) hi hL) ?_
  refine z_aload_n dL_law_971 rfl rfl ?_
  refine z_iload_n dL_law_972 rfl rfl ?_
  refine z_iconst (v := nI 3) dL_law_973 rfl (by decide) ?_
  refine z_iadd dL_law_974 rfl ?_
  refine z_sld hg dL_law_975 rfl (in_j 3 (by decide) hi hL) ?_
  refine z_aload_n dL_law_976 rfl rfl ?_
  refine z_iload_n dL_law_977 rfl rfl ?_
  refine z_iconst (v := nI 4) dL_law_978 rfl (by decide) ?_
  refine z_iadd dL_law_979 rfl ?_
  refine z_sld hg dL_law_980 rfl (in_j 4 (by decide) hi hL) ?_
  refine zc_L_107 rfl dL_law_981 rfl mo_recv (R_vote g h1 m S w hM _ _ _ _) rfl rfl ⟨(Nat.le_of_ble_eq_true rfl), (Nat.le_of_ble_eq_true rfl)⟩ ⟨by show ce + 4 + 0 ≤ 600000; omega, by show sl + 125 + 0 ≤ 7302250; omega⟩ (Nat.le_of_ble_eq_true rfl) (fun v2 h2 e2 => ?_)
  obtain ⟨S2, rfl, rfl, hM2⟩ := e2
  exact z_icmp_eq (tgt := 1286) dL_law_984 rfl (by decide) (fun _ => z_widen (by show ce + 4 + 0 ≤ ce + 35; omega) (by show sl + 125 + 0 ≤ sl + 1018; omega) (K _ _ ⟨RepC_m S2 hC1, S2, (mUp_mUp _ _ _ _).symm, hM2⟩)) (fun c => absurd rfl c)

set_option maxHeartbeats 800000 in
set_option maxRecDepth 100000 in
theorem L_patch (g : zG) (b L n0 : Nat) (xs : Nat → Int32) (nm : String) (hg : g.2.2.2 = n0) (hL : L ≤ 3072) (x m : Nat) (w : sW) (H : zH) (hI : LI x m w H) (i : Nat) (hi : i + 6 ≤ L) (ce sl : Nat) (hce : ce ≤ 500000) (hsl : sl ≤ 7000000) (K : ∀ (H' : zH) (w' : sW), LI x m w' H' → zZ g (YL b L n0 xs nm) QL 1286 [(3, .int (nI i)), (2, .ref m), (1, .ref x), (0, .ref b)] [] H' (ce + 35) (sl + 1018)) : zZ g (YL b L n0 xs nm) QL 989 [(3, .int (nI i)), (2, .ref m), (1, .ref x), (0, .ref b)] [] H ce sl := by
  refine z_aload_n dL_law_989 rfl rfl ?_
  refine z_aload_n dL_law_990 rfl rfl ?_
  refine z_iload_n dL_law_991 rfl rfl ?_
  refine z_iconst (v := nI 1) dL_law_992 rfl (by decide) ?_
  refine z_iadd dL_law_993 rfl ?_
  refine z_sld hg dL_law_994 rfl (in_j 1 (by decide) hi hL) ?_
  obtain ⟨hC, S, hS, hM⟩ := id hI
  obtain ⟨fs, hx⟩ := RepC_x hC
  refine zc_L_108 rfl dL_law_995 rfl hx (C_patch g H x m w hC _) rfl rfl ⟨(Nat.le_of_ble_eq_true rfl), (Nat.le_of_ble_eq_true rfl)⟩ ⟨by show ce + 10 ≤ 600000; omega, by show sl + 294 ≤ 7302250; omega⟩ (Nat.le_of_ble_eq_true rfl) (fun v1 h1 e1 => ?_)
  obtain ⟨rfl, hC1, hk1⟩ := e1
  refine zZ_h (mUp m S h1) (mUp_kept hS hk1) ?_
  refine z_aload_n dL_law_998 rfl rfl ?_
  refine z_aload_n dL_law_999 rfl rfl ?_
  refine z_iload_n dL_law_1000 rfl rfl ?_
  refine z_iconst (v := nI 1) dL_law_1001 rfl (by decide) ?_
  refine z_iadd dL_law_1002 rfl ?_
  refine z_sld hg dL_law_1003 rfl (in_j 1 (by decide) hi hL) ?_
  refine zc_L_111 rfl dL_law_1004 rfl mo_recv (R_patch g h1 m S w hM _) rfl rfl ⟨(Nat.le_of_ble_eq_true rfl), (Nat.le_of_ble_eq_true rfl)⟩ ⟨by show ce + 10 + 0 ≤ 600000; omega, by show sl + 294 + 0 ≤ 7302250; omega⟩ (Nat.le_of_ble_eq_true rfl) (fun v2 h2 e2 => ?_)
  obtain ⟨S2, rfl, rfl, hM2⟩ := e2
  exact z_icmp_eq (tgt := 1286) dL_law_1007 rfl (by decide) (fun _ => z_widen (by show ce + 10 + 0 ≤ ce + 35; omega) (by show sl + 294 + 0 ≤ sl + 1018; omega) (K _ _ ⟨RepC_m S2 hC1, S2, (mUp_mUp _ _ _ _).symm, hM2⟩)) (fun c => absurd rfl c)

set_option maxHeartbeats 800000 in
set_option maxRecDepth 100000 in
theorem L_turn (g : zG) (b L n0 : Nat) (xs : Nat → Int32) (nm : String) (hg : g.2.2.2 = n0) (hL : L ≤ 3072) (x m : Nat) (w : sW) (H : zH) (hI : LI x m w H) (i : Nat) (hi : i + 6 ≤ L) (ce sl : Nat) (hce : ce ≤ 500000) (hsl : sl ≤ 7000000) (K : ∀ (H' : zH) (w' : sW), LI x m w' H' → zZ g (YL b L n0 xs nm) QL 1286 [(3, .int (nI i)), (2, .ref m), (1, .ref x), (0, .ref b)] [] H' (ce + 35) (sl + 1018)) : zZ g (YL b L n0 xs nm) QL 1012 [(3, .int (nI i)), (2, .ref m), (1, .ref x), (0, .ref b)] [] H ce sl := by
  refine z_aload_n dL_law_1012 rfl rfl ?_
  refine z_aload_n dL_law_1013 rfl rfl ?_
  refine z_iload_n dL_law_1014 rfl rfl ?_
  refine z_iconst (v := nI 1) dL_law_1015 rfl (by decide) ?_
  refine z_iadd dL_law_1016 rfl ?_
  refine z_sld hg dL_law_1017 rfl (in_j 1 (by decide) hi hL) ?_
  obtain ⟨hC, S, hS, hM⟩ := id hI
  obtain ⟨fs, hx⟩ := RepC_x hC
  refine zc_L_112 rfl dL_law_1018 rfl hx (C_turn g H x m w hC _) rfl rfl ⟨(Nat.le_of_ble_eq_true rfl), (Nat.le_of_ble_eq_true rfl)⟩ ⟨by show ce + 0 ≤ 600000; omega, by show sl + 0 ≤ 7302250; omega⟩ (Nat.le_of_ble_eq_true rfl) (fun v1 h1 e1 => ?_)
  obtain ⟨rfl, hC1, hk1⟩ := e1
  refine zZ_h (mUp m S h1) (mUp_kept hS hk1) ?_
  refine z_aload_n dL_law_1021 rfl rfl ?_
  refine z_aload_n dL_law_1022 rfl rfl ?_
  refine z_iload_n dL_law_1023 rfl rfl ?_
  refine z_iconst (v := nI 1) dL_law_1024 rfl (by decide) ?_
  refine z_iadd dL_law_1025 rfl ?_
  refine z_sld hg dL_law_1026 rfl (in_j 1 (by decide) hi hL) ?_
  refine zc_L_115 rfl dL_law_1027 rfl mo_recv (R_turn g h1 m S w hM _) rfl rfl ⟨(Nat.le_of_ble_eq_true rfl), (Nat.le_of_ble_eq_true rfl)⟩ ⟨by show ce + 0 + 0 ≤ 600000; omega, by show sl + 0 + 0 ≤ 7302250; omega⟩ (Nat.le_of_ble_eq_true rfl) (fun v2 h2 e2 => ?_)
  obtain ⟨S2, rfl, rfl, hM2⟩ := e2
  exact z_icmp_eq (tgt := 1286) dL_law_1030 rfl (by decide) (fun _ => z_widen (by show ce + 0 + 0 ≤ ce + 35; omega) (by show sl + 0 + 0 ≤ sl + 1018; omega) (K _ _ ⟨RepC_m S2 hC1, S2, (mUp_mUp _ _ _ _).symm, hM2⟩)) (fun c => absurd rfl c)

set_option maxHeartbeats 800000 in
set_option maxRecDepth 100000 in
theorem L_act (g : zG) (b L n0 : Nat) (xs : Nat → Int32) (nm : String) (hg : g.2.2.2 = n0) (hL : L ≤ 3072) (x m : Nat) (w : sW) (H : zH) (hI : LI x m w H) (i : Nat) (hi : i + 6 ≤ L) (ce sl : Nat) (hce : ce ≤ 500000) (hsl : sl ≤ 7000000) (K : ∀ (H' : zH) (w' : sW), LI x m w' H' → zZ g (YL b L n0 xs nm) QL 1286 [(3, .int (nI i)), (2, .ref m), (1, .ref x), (0, .ref b)] [] H' (ce + 35) (sl + 1018)) : zZ g (YL b L n0 xs nm) QL 1035 [(3, .int (nI i)), (2, .ref m), (1, .ref x), (0, .ref b)] [] H ce sl := by
  refine z_aload_n dL_law_1035 rfl rfl ?_
  refine z_aload_n dL_law_1036 rfl rfl ?_
  refine z_iload_n dL_law_1037 rfl rfl ?_
  refine z_iconst (v := nI 1) dL_law_1038 rfl (by decide) ?_
  refine z_iadd dL_law_1039 rfl ?_
  refine z_sld hg dL_law_1040 rfl (in_j 1 (by decide) hi hL) ?_
  refine z_aload_n dL_law_1041 rfl rfl ?_
  refine z_iload_n dL_law_1042 rfl rfl ?_
  refine z_iconst (v := nI 2) dL_law_1043 rfl (by decide) ?_
  refine z_iadd dL_law_1044 rfl ?_
  refine z_sld hg dL_law_1045 rfl (in_j 2 (by decide) hi hL) ?_
  refine z_aload_n dL_law_1046 rfl rfl ?_
  refine z_iload_n dL_law_1047 rfl rfl ?_
  refine z_iconst (v := nI 3) dL_law_1048 rfl (by decide) ?_
  refine z_iadd dL_law_1049 rfl ?_
  refine z_sld hg dL_law_1050 rfl (in_j 3 (by decide) hi hL) ?_
  obtain ⟨hC, S, hS, hM⟩ := id hI
  obtain ⟨fs, hx⟩ := RepC_x hC
  refine zc_L_116 rfl dL_law_1051 rfl hx (C_act g H x m w hC _ _ _) rfl rfl ⟨(Nat.le_of_ble_eq_true rfl), (Nat.le_of_ble_eq_true rfl)⟩ ⟨by show ce + 0 ≤ 600000; omega, by show sl + 0 ≤ 7302250; omega⟩ (Nat.le_of_ble_eq_true rfl) (fun v1 h1 e1 => ?_)
  obtain ⟨rfl, hC1, hk1⟩ := e1
  refine zZ_h (mUp m S h1) (mUp_kept hS hk1) ?_
  refine z_aload_n dL_law_1054 rfl rfl ?_
  refine z_aload_n dL_law_1055 rfl rfl ?_
  refine z_iload_n dL_law_1056 rfl rfl ?_
  refine z_iconst (v := nI 1) dL_law_1057 rfl (by decide) ?_
  refine z_iadd dL_law_1058 rfl ?_
  refine z_sld hg dL_law_1059 rfl (in_j 1 (by decide) hi hL) ?_
  refine z_aload_n dL_law_1060 rfl rfl ?_
  refine z_iload_n dL_law_1061 rfl rfl ?_
  refine z_iconst (v := nI 2) dL_law_1062 rfl (by decide) ?_
  refine z_iadd dL_law_1063 rfl ?_
  refine z_sld hg dL_law_1064 rfl (in_j 2 (by decide) hi hL) ?_
  refine z_aload_n dL_law_1065 rfl rfl ?_
  refine z_iload_n dL_law_1066 rfl rfl ?_
  refine z_iconst (v := nI 3) dL_law_1067 rfl (by decide) ?_
  refine z_iadd dL_law_1068 rfl ?_
  refine z_sld hg dL_law_1069 rfl (in_j 3 (by decide) hi hL) ?_
  refine zc_L_119 rfl dL_law_1070 rfl mo_recv (R_act g h1 m S w hM _ _ _) rfl rfl ⟨(Nat.le_of_ble_eq_true rfl), (Nat.le_of_ble_eq_true rfl)⟩ ⟨by show ce + 0 + 0 ≤ 600000; omega, by show sl + 0 + 0 ≤ 7302250; omega⟩ (Nat.le_of_ble_eq_true rfl) (fun v2 h2 e2 => ?_)
  obtain ⟨S2, rfl, rfl, hM2⟩ := e2
  exact z_icmp_eq (tgt := 1286) dL_law_1073 rfl (by decide) (fun _ => z_widen (by show ce + 0 + 0 ≤ ce + 35; omega) (by show sl + 0 + 0 ≤ sl + 1018; omega) (K _ _ ⟨RepC_m S2 hC1, S2, (mUp_mUp _ _ _ _).symm, hM2⟩)) (fun c => absurd rfl c)

set_option maxHeartbeats 800000 in
set_option maxRecDepth 100000 in
theorem L_apply (g : zG) (b L n0 : Nat) (xs : Nat → Int32) (nm : String) (hg : g.2.2.2 = n0) (hL : L ≤ 3072) (x m : Nat) (w : sW) (H : zH) (hI : LI x m w H) (i : Nat) (hi : i + 6 ≤ L) (ce sl : Nat) (hce : ce ≤ 500000) (hsl : sl ≤ 7000000) (K : ∀ (H' : zH) (w' : sW), LI x m w' H' → zZ g (YL b L n0 xs nm) QL 1286 [(3, .int (nI i)), (2, .ref m), (1, .ref x), (0, .ref b)] [] H' (ce + 35) (sl + 1018)) : zZ g (YL b L n0 xs nm) QL 1078 [(3, .int (nI i)), (2, .ref m), (1, .ref x), (0, .ref b)] [] H ce sl := by
  refine z_aload_n dL_law_1078 rfl rfl ?_
  refine z_aload_n dL_law_1079 rfl rfl ?_
  refine z_iload_n dL_law_1080 rfl rfl ?_
  refine z_iconst (v := nI 1) dL_law_1081 rfl (by decide) ?_
  refine z_iadd dL_law_1082 rfl ?_
  refine z_sld hg dL_law_1083 rfl (in_j 1 (by decide) hi hL) ?_
  refine z_aload_n dL_law_1084 rfl rfl ?_
  refine z_iload_n dL_law_1085 rfl rfl ?_
  refine z_iconst (v := nI 2) dL_law_1086 rfl (by decide) ?_
  refine z_iadd dL_law_1087 rfl ?_
  refine z_sld hg dL_law_1088 rfl (in_j 2 (by decide) hi hL) ?_
  obtain ⟨hC, S, hS, hM⟩ := id hI
  obtain ⟨fs, hx⟩ := RepC_x hC
  refine zc_L_120 rfl dL_law_1089 rfl hx (C_apply g H x m w hC _ _) rfl rfl ⟨(Nat.le_of_ble_eq_true rfl), (Nat.le_of_ble_eq_true rfl)⟩ ⟨by show ce + 5 ≤ 600000; omega, by show sl + 131 ≤ 7302250; omega⟩ (Nat.le_of_ble_eq_true rfl) (fun v1 h1 e1 => ?_)
  obtain ⟨rfl, hC1, hk1⟩ := e1
  refine zZ_h (mUp m S h1) (mUp_kept hS hk1) ?_
  refine z_aload_n dL_law_1092 rfl rfl ?_
  refine z_aload_n dL_law_1093 rfl rfl ?_
  refine z_iload_n dL_law_1094 rfl rfl ?_
  refine z_iconst (v := nI 1) dL_law_1095 rfl (by decide) ?_
  refine z_iadd dL_law_1096 rfl ?_
  refine z_sld hg dL_law_1097 rfl (in_j 1 (by decide) hi hL) ?_
  refine z_aload_n dL_law_1098 rfl rfl ?_
  refine z_iload_n dL_law_1099 rfl rfl ?_
  refine z_iconst (v := nI 2) dL_law_1100 rfl (by decide) ?_
  refine z_iadd dL_law_1101 rfl ?_
  refine z_sld hg dL_law_1102 rfl (in_j 2 (by decide) hi hL) ?_
  refine zc_L_123 rfl dL_law_1103 rfl mo_recv (R_apply g h1 m S w hM (RepC_pOk hC) _ _) rfl rfl ⟨(Nat.le_of_ble_eq_true rfl), (Nat.le_of_ble_eq_true rfl)⟩ ⟨by show ce + 5 + 0 ≤ 600000; omega, by show sl + 131 + 0 ≤ 7302250; omega⟩ (Nat.le_of_ble_eq_true rfl) (fun v2 h2 e2 => ?_)
  obtain ⟨S2, rfl, rfl, hM2⟩ := e2
  exact z_icmp_eq (tgt := 1286) dL_law_1106 rfl (by decide) (fun _ => z_widen (by show ce + 5 + 0 ≤ ce + 35; omega) (by show sl + 131 + 0 ≤ sl + 1018; omega) (K _ _ ⟨RepC_m S2 hC1, S2, (mUp_mUp _ _ _ _).symm, hM2⟩)) (fun c => absurd rfl c)

set_option maxHeartbeats 800000 in
set_option maxRecDepth 100000 in
theorem L_log (g : zG) (b L n0 : Nat) (xs : Nat → Int32) (nm : String) (hg : g.2.2.2 = n0) (hL : L ≤ 3072) (x m : Nat) (w : sW) (H : zH) (hI : LI x m w H) (i : Nat) (hi : i + 6 ≤ L) (ce sl : Nat) (hce : ce ≤ 500000) (hsl : sl ≤ 7000000) (K : ∀ (H' : zH) (w' : sW), LI x m w' H' → zZ g (YL b L n0 xs nm) QL 1286 [(3, .int (nI i)), (2, .ref m), (1, .ref x), (0, .ref b)] [] H' (ce + 35) (sl + 1018)) : zZ g (YL b L n0 xs nm) QL 1111 [(3, .int (nI i)), (2, .ref m), (1, .ref x), (0, .ref b)] [] H ce sl := by
  refine z_aload_n dL_law_1111 rfl rfl ?_
  refine z_aload_n dL_law_1112 rfl rfl ?_
  refine z_iload_n dL_law_1113 rfl rfl ?_
  refine z_iconst (v := nI 1) dL_law_1114 rfl (by decide) ?_
  refine z_iadd dL_law_1115 rfl ?_
  refine z_sld hg dL_law_1116 rfl (in_j 1 (by decide) hi hL) ?_
  refine z_aload_n dL_law_1117 rfl rfl ?_
  refine z_iload_n dL_law_1118 rfl rfl ?_
  refine z_iconst (v := nI 2) dL_law_1119 rfl (by decide) ?_
  refine z_iadd dL_law_1120 rfl ?_
  refine z_sld hg dL_law_1121 rfl (in_j 2 (by decide) hi hL) ?_
  refine z_aload_n dL_law_1122 rfl rfl ?_
  refine z_iload_n dL_law_1123 rfl rfl ?_
  refine z_iconst (v := nI 3) dL_law_1124 rfl (by decide) ?_
  refine z_iadd dL_law_1125 rfl ?_
  refine z_sld hg dL_law_1126 rfl (in_j 3 (by decide) hi hL) ?_
  refine z_aload_n dL_law_1127 rfl rfl ?_
  refine z_iload_n dL_law_1128 rfl rfl ?_
  refine z_iconst (v := nI 4) dL_law_1129 rfl (by decide) ?_
  refine z_iadd dL_law_1130 rfl ?_
  refine z_sld hg dL_law_1131 rfl (in_j 4 (by decide) hi hL) ?_
  obtain ⟨hC, S, hS, hM⟩ := id hI
  obtain ⟨fs, hx⟩ := RepC_x hC
  refine zc_L_124 rfl dL_law_1132 rfl hx (C_log g H x m w hC _ _ _ _) rfl rfl ⟨(Nat.le_of_ble_eq_true rfl), (Nat.le_of_ble_eq_true rfl)⟩ ⟨by show ce + 4 ≤ 600000; omega, by show sl + 125 ≤ 7302250; omega⟩ (Nat.le_of_ble_eq_true rfl) (fun v1 h1 e1 => ?_)
  obtain ⟨rfl, hC1, hk1⟩ := e1
  refine zZ_h (mUp m S h1) (mUp_kept hS hk1) ?_
  refine z_aload_n dL_law_1135 rfl rfl ?_
  refine z_aload_n dL_law_1136 rfl rfl ?_
  refine z_iload_n dL_law_1137 rfl rfl ?_
  refine z_iconst (v := nI 1) dL_law_1138 rfl (by decide) ?_
  refine z_iadd dL_law_1139 rfl ?_
  refine z_sld hg dL_law_1140 rfl (in_j 1 (by decide) hi hL) ?_
  refine z_aload_n dL_law_1141 rfl rfl ?_
  refine z_iload_n dL_law_1142 rfl rfl ?_
  refine z_iconst (v := nI 2) dL_law_1143 rfl (by decide) ?_
  refine z_iadd dL_law_1144 rfl ?_
  refine z_sld hg dL_law_1145 rfl (in_j 2 (by decide) hi hL) ?_
  refine z_aload_n dL_law_1146 rfl rfl ?_
  refine z_iload_n dL_law_1147 rfl rfl ?_
  refine z_iconst (v := nI 3) dL_law_1148 rfl (by decide) ?_
  refine z_iadd dL_law_1149 rfl ?_
  refine z_sld hg dL_law_1150 rfl (in_j 3 (by decide) hi hL) ?_
  refine z_aload_n dL_law_1151 rfl rfl ?_
  refine z_iload_n dL_law_1152 rfl rfl ?_
  refine z_iconst (v := nI 4) dL_law_1153 rfl (by decide) ?_
  refine z_iadd dL_law_1154 rfl ?_
  refine z_sld hg dL_law_1155 rfl (in_j 4 (by decide) hi hL) ?_
  refine zc_L_127 rfl dL_law_1156 rfl mo_recv (R_log g h1 m S w hM _ _ _ _) rfl rfl ⟨(Nat.le_of_ble_eq_true rfl), (Nat.le_of_ble_eq_true rfl)⟩ ⟨by show ce + 4 + 0 ≤ 600000; omega, by show sl + 125 + 0 ≤ 7302250; omega⟩ (Nat.le_of_ble_eq_true rfl) (fun v2 h2 e2 => ?_)
  obtain ⟨S2, rfl, rfl, hM2⟩ := e2
  exact z_icmp_eq (tgt := 1286) dL_law_1159 rfl (by decide) (fun _ => z_widen (by show ce + 4 + 0 ≤ ce + 35; omega) (by show sl + 125 + 0 ≤ sl + 1018; omega) (K _ _ ⟨RepC_m S2 hC1, S2, (mUp_mUp _ _ _ _).symm, hM2⟩)) (fun c => absurd rfl c)

set_option maxHeartbeats 800000 in
set_option maxRecDepth 100000 in
theorem L_draw (g : zG) (b L n0 : Nat) (xs : Nat → Int32) (nm : String) (hg : g.2.2.2 = n0) (hL : L ≤ 3072) (x m : Nat) (w : sW) (H : zH) (hI : LI x m w H) (i : Nat) (hi : i + 6 ≤ L) (ce sl : Nat) (hce : ce ≤ 500000) (hsl : sl ≤ 7000000) (K : ∀ (H' : zH) (w' : sW), LI x m w' H' → zZ g (YL b L n0 xs nm) QL 1286 [(3, .int (nI i)), (2, .ref m), (1, .ref x), (0, .ref b)] [] H' (ce + 35) (sl + 1018)) : zZ g (YL b L n0 xs nm) QL 1164 [(3, .int (nI i)), (2, .ref m), (1, .ref x), (0, .ref b)] [] H ce sl := by
  refine z_aload_n dL_law_1164 rfl rfl ?_
  refine z_aload_n dL_law_1165 rfl rfl ?_
  refine z_iload_n dL_law_1166 rfl rfl ?_
  refine z_iconst (v := nI 1) dL_law_1167 rfl (by decide) ?_
  refine z_iadd dL_law_1168 rfl ?_
  refine z_sld hg dL_law_1169 rfl (in_j 1 (by decide) hi hL) ?_
  refine z_aload_n dL_law_1170 rfl rfl ?_
  refine z_iload_n dL_law_1171 rfl rfl ?_
  refine z_iconst (v := nI 2) dL_law_1172 rfl (by decide) ?_
  refine z_iadd dL_law_1173 rfl ?_
  refine z_sld hg dL_law_1174 rfl (in_j 2 (by decide) hi hL) ?_
  refine z_aload_n dL_law_1175 rfl rfl ?_
  refine z_iload_n dL_law_1176 rfl rfl ?_
  refine z_iconst (v := nI 3) dL_law_1177 rfl (by decide) ?_
  refine z_iadd dL_law_1178 rfl ?_
  refine z_sld hg dL_law_1179 rfl (in_j 3 (by decide) hi hL) ?_
  refine z_aload_n dL_law_1180 rfl rfl ?_
  refine z_iload_n dL_law_1181 rfl rfl ?_
  refine z_iconst (v := nI 4) dL_law_1182 rfl (by decide) ?_
  refine z_iadd dL_law_1183 rfl ?_
  refine z_sld hg dL_law_1184 rfl (in_j 4 (by decide) hi hL) ?_
  obtain ⟨hC, S, hS, hM⟩ := id hI
  obtain ⟨fs, hx⟩ := RepC_x hC
  refine zc_L_128 rfl dL_law_1185 rfl hx (C_draw g H x m w hC _ _ _ _) rfl rfl ⟨(Nat.le_of_ble_eq_true rfl), (Nat.le_of_ble_eq_true rfl)⟩ ⟨by show ce + 4 ≤ 600000; omega, by show sl + 125 ≤ 7302250; omega⟩ (Nat.le_of_ble_eq_true rfl) (fun v1 h1 e1 => ?_)
  obtain ⟨rfl, hC1, hk1⟩ := e1
  refine zZ_h (mUp m S h1) (mUp_kept hS hk1) ?_
  refine z_aload_n dL_law_1188 rfl rfl ?_
  refine z_aload_n dL_law_1189 rfl rfl ?_
  refine z_iload_n dL_law_1190 rfl rfl ?_
  refine z_iconst (v := nI 1) dL_law_1191 rfl (by decide) ?_
  refine z_iadd dL_law_1192 rfl ?_
  refine z_sld hg dL_law_1193 rfl (in_j 1 (by decide) hi hL) ?_
  refine z_aload_n dL_law_1194 rfl rfl ?_
  refine z_iload_n dL_law_1195 rfl rfl ?_
  refine z_iconst (v := nI 2) dL_law_1196 rfl (by decide) ?_
  refine z_iadd dL_law_1197 rfl ?_
  refine z_sld hg dL_law_1198 rfl (in_j 2 (by decide) hi hL) ?_
  refine z_aload_n dL_law_1199 rfl rfl ?_
  refine z_iload_n dL_law_1200 rfl rfl ?_
  refine z_iconst (v := nI 3) dL_law_1201 rfl (by decide) ?_
  refine z_iadd dL_law_1202 rfl ?_
  refine z_sld hg dL_law_1203 rfl (in_j 3 (by decide) hi hL) ?_
  refine z_aload_n dL_law_1204 rfl rfl ?_
  refine z_iload_n dL_law_1205 rfl rfl ?_
  refine z_iconst (v := nI 4) dL_law_1206 rfl (by decide) ?_
  refine z_iadd dL_law_1207 rfl ?_
  refine z_sld hg dL_law_1208 rfl (in_j 4 (by decide) hi hL) ?_
  refine zc_L_131 rfl dL_law_1209 rfl mo_recv (R_draw g h1 m S w hM _ _ _ _) rfl rfl ⟨(Nat.le_of_ble_eq_true rfl), (Nat.le_of_ble_eq_true rfl)⟩ ⟨by show ce + 4 + 0 ≤ 600000; omega, by show sl + 125 + 0 ≤ 7302250; omega⟩ (Nat.le_of_ble_eq_true rfl) (fun v2 h2 e2 => ?_)
  obtain ⟨S2, rfl, rfl, hM2⟩ := e2
  exact z_icmp_eq (tgt := 1286) dL_law_1212 rfl (by decide) (fun _ => z_widen (by show ce + 4 + 0 ≤ ce + 35; omega) (by show sl + 125 + 0 ≤ sl + 1018; omega) (K _ _ ⟨RepC_m S2 hC1, S2, (mUp_mUp _ _ _ _).symm, hM2⟩)) (fun c => absurd rfl c)

set_option maxHeartbeats 800000 in
set_option maxRecDepth 100000 in
theorem L_keep (g : zG) (b L n0 : Nat) (xs : Nat → Int32) (nm : String) (hg : g.2.2.2 = n0) (hL : L ≤ 3072) (x m : Nat) (w : sW) (H : zH) (hI : LI x m w H) (i : Nat) (hi : i + 6 ≤ L) (ce sl : Nat) (hce : ce ≤ 500000) (hsl : sl ≤ 7000000) (K : ∀ (H' : zH) (w' : sW), LI x m w' H' → zZ g (YL b L n0 xs nm) QL 1286 [(3, .int (nI i)), (2, .ref m), (1, .ref x), (0, .ref b)] [] H' (ce + 35) (sl + 1018)) : zZ g (YL b L n0 xs nm) QL 1217 [(3, .int (nI i)), (2, .ref m), (1, .ref x), (0, .ref b)] [] H ce sl := by
  refine z_aload_n dL_law_1217 rfl rfl ?_
  refine z_aload_n dL_law_1218 rfl rfl ?_
  refine z_iload_n dL_law_1219 rfl rfl ?_
  refine z_iconst (v := nI 1) dL_law_1220 rfl (by decide) ?_
  refine z_iadd dL_law_1221 rfl ?_
  refine z_sld hg dL_law_1222 rfl (in_j 1 (by decide) hi hL) ?_
  obtain ⟨hC, S, hS, hM⟩ := id hI
  obtain ⟨fs, hx⟩ := RepC_x hC
  refine zc_L_132 rfl dL_law_1223 rfl hx (C_keep g H x m w hC _) rfl rfl ⟨(Nat.le_of_ble_eq_true rfl), (Nat.le_of_ble_eq_true rfl)⟩ ⟨by show ce + 35 ≤ 600000; omega, by show sl + 1018 ≤ 7302250; omega⟩ (Nat.le_of_ble_eq_true rfl) (fun v1 h1 e1 => ?_)
  obtain ⟨rfl, hC1, hk1⟩ := e1
  refine zZ_h (mUp m S h1) (mUp_kept hS hk1) ?_
  refine z_aload_n dL_law_1226 rfl rfl ?_
  refine z_aload_n dL_law_1227 rfl rfl ?_
  refine z_iload_n dL_law_1228 rfl rfl ?_
  refine z_iconst (v := nI 1) dL_law_1229 rfl (by decide) ?_
  refine z_iadd dL_law_1230 rfl ?_
  refine z_sld hg dL_law_1231 rfl (in_j 1 (by decide) hi hL) ?_
  refine zc_L_135 rfl dL_law_1232 rfl mo_recv (R_keep g h1 m S w hM _) rfl rfl ⟨(Nat.le_of_ble_eq_true rfl), (Nat.le_of_ble_eq_true rfl)⟩ ⟨by show ce + 35 + 0 ≤ 600000; omega, by show sl + 1018 + 0 ≤ 7302250; omega⟩ (Nat.le_of_ble_eq_true rfl) (fun v2 h2 e2 => ?_)
  obtain ⟨S2, rfl, rfl, hM2⟩ := e2
  exact z_icmp_eq (tgt := 1286) dL_law_1235 rfl (by decide) (fun _ => z_widen (by show ce + 35 + 0 ≤ ce + 35; omega) (by show sl + 1018 + 0 ≤ sl + 1018; omega) (K _ _ ⟨RepC_m S2 hC1, S2, (mUp_mUp _ _ _ _).symm, hM2⟩)) (fun c => absurd rfl c)

set_option maxHeartbeats 800000 in
set_option maxRecDepth 100000 in
theorem L_back (g : zG) (b L n0 : Nat) (xs : Nat → Int32) (nm : String) (hg : g.2.2.2 = n0) (hL : L ≤ 3072) (x m : Nat) (w : sW) (H : zH) (hI : LI x m w H) (i : Nat) (hi : i + 6 ≤ L) (ce sl : Nat) (hce : ce ≤ 500000) (hsl : sl ≤ 7000000) (K : ∀ (H' : zH) (w' : sW), LI x m w' H' → zZ g (YL b L n0 xs nm) QL 1286 [(3, .int (nI i)), (2, .ref m), (1, .ref x), (0, .ref b)] [] H' (ce + 35) (sl + 1018)) : zZ g (YL b L n0 xs nm) QL 1240 [(3, .int (nI i)), (2, .ref m), (1, .ref x), (0, .ref b)] [] H ce sl := by
  refine z_aload_n dL_law_1240 rfl rfl ?_
  refine z_aload_n dL_law_1241 rfl rfl ?_
  refine z_iload_n dL_law_1242 rfl rfl ?_
  refine z_iconst (v := nI 1) dL_law_1243 rfl (by decide) ?_
  refine z_iadd dL_law_1244 rfl ?_
  refine z_sld hg dL_law_1245 rfl (in_j 1 (by decide) hi hL) ?_
  obtain ⟨hC, S, hS, hM⟩ := id hI
  obtain ⟨fs, hx⟩ := RepC_x hC
  refine zc_L_136 rfl dL_law_1246 rfl hx (C_back g H x m w hC _) rfl rfl ⟨(Nat.le_of_ble_eq_true rfl), (Nat.le_of_ble_eq_true rfl)⟩ ⟨by show ce + 35 ≤ 600000; omega, by show sl + 1018 ≤ 7302250; omega⟩ (Nat.le_of_ble_eq_true rfl) (fun v1 h1 e1 => ?_)
  obtain ⟨rfl, hC1, hk1⟩ := e1
  refine zZ_h (mUp m S h1) (mUp_kept hS hk1) ?_
  refine z_aload_n dL_law_1249 rfl rfl ?_
  refine z_aload_n dL_law_1250 rfl rfl ?_
  refine z_iload_n dL_law_1251 rfl rfl ?_
  refine z_iconst (v := nI 1) dL_law_1252 rfl (by decide) ?_
  refine z_iadd dL_law_1253 rfl ?_
  refine z_sld hg dL_law_1254 rfl (in_j 1 (by decide) hi hL) ?_
  refine zc_L_139 rfl dL_law_1255 rfl mo_recv (R_back g h1 m S w hM _) rfl rfl ⟨(Nat.le_of_ble_eq_true rfl), (Nat.le_of_ble_eq_true rfl)⟩ ⟨by show ce + 35 + 0 ≤ 600000; omega, by show sl + 1018 + 0 ≤ 7302250; omega⟩ (Nat.le_of_ble_eq_true rfl) (fun v2 h2 e2 => ?_)
  obtain ⟨S2, rfl, rfl, hM2⟩ := e2
  exact z_icmp_eq (tgt := 1286) dL_law_1258 rfl (by decide) (fun _ => z_widen (by show ce + 35 + 0 ≤ ce + 35; omega) (by show sl + 1018 + 0 ≤ sl + 1018; omega) (K _ _ ⟨RepC_m S2 hC1, S2, (mUp_mUp _ _ _ _).symm, hM2⟩)) (fun c => absurd rfl c)

set_option maxHeartbeats 800000 in
set_option maxRecDepth 100000 in
theorem L_count (g : zG) (b L n0 : Nat) (xs : Nat → Int32) (nm : String) (hg : g.2.2.2 = n0) (hL : L ≤ 3072) (x m : Nat) (w : sW) (H : zH) (hI : LI x m w H) (i : Nat) (hi : i + 6 ≤ L) (ce sl : Nat) (hce : ce ≤ 500000) (hsl : sl ≤ 7000000) (K : ∀ (H' : zH) (w' : sW), LI x m w' H' → zZ g (YL b L n0 xs nm) QL 1286 [(3, .int (nI i)), (2, .ref m), (1, .ref x), (0, .ref b)] [] H' (ce + 35) (sl + 1018)) : zZ g (YL b L n0 xs nm) QL 1263 [(3, .int (nI i)), (2, .ref m), (1, .ref x), (0, .ref b)] [] H ce sl := by
  refine z_aload_n dL_law_1263 rfl rfl ?_
  refine z_aload_n dL_law_1264 rfl rfl ?_
  refine z_iload_n dL_law_1265 rfl rfl ?_
  refine z_iconst (v := nI 1) dL_law_1266 rfl (by decide) ?_
  refine z_iadd dL_law_1267 rfl ?_
  refine z_sld hg dL_law_1268 rfl (in_j 1 (by decide) hi hL) ?_
  obtain ⟨hC, S, hS, hM⟩ := id hI
  obtain ⟨fs, hx⟩ := RepC_x hC
  refine zc_L_140 rfl dL_law_1269 rfl hx (C_count g H x m w hC _) rfl rfl ⟨(Nat.le_of_ble_eq_true rfl), (Nat.le_of_ble_eq_true rfl)⟩ ⟨by show ce + 0 ≤ 600000; omega, by show sl + 0 ≤ 7302250; omega⟩ (Nat.le_of_ble_eq_true rfl) (fun v1 h1 e1 => ?_)
  obtain ⟨rfl, hC1, hk1⟩ := e1
  refine zZ_h (mUp m S h1) (mUp_kept hS hk1) ?_
  refine z_aload_n dL_law_1272 rfl rfl ?_
  refine z_aload_n dL_law_1273 rfl rfl ?_
  refine z_iload_n dL_law_1274 rfl rfl ?_
  refine z_iconst (v := nI 1) dL_law_1275 rfl (by decide) ?_
  refine z_iadd dL_law_1276 rfl ?_
  refine z_sld hg dL_law_1277 rfl (in_j 1 (by decide) hi hL) ?_
  refine zc_L_143 rfl dL_law_1278 rfl mo_recv (R_count g h1 m S w hM _) rfl rfl ⟨(Nat.le_of_ble_eq_true rfl), (Nat.le_of_ble_eq_true rfl)⟩ ⟨by show ce + 0 + 0 ≤ 600000; omega, by show sl + 0 + 0 ≤ 7302250; omega⟩ (Nat.le_of_ble_eq_true rfl) (fun v2 h2 e2 => ?_)
  obtain ⟨S2, rfl, rfl, hM2⟩ := e2
  exact z_icmp_eq (tgt := 1286) dL_law_1281 rfl (by decide) (fun _ => z_widen (by show ce + 0 + 0 ≤ ce + 35; omega) (by show sl + 0 + 0 ≤ sl + 1018; omega) (K _ _ ⟨RepC_m S2 hC1, S2, (mUp_mUp _ _ _ _).symm, hM2⟩)) (fun c => absurd rfl c)

