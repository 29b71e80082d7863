set_option maxHeartbeats 4000000 in
set_option maxRecDepth 20000 in
theorem lc_21 {l0 : Launch} {X : aX} (hX : aK l0 X cL_law 4 RL ret 400 600000 7302250) {L : Nat} {sc : Nat → Int} (hsc : aScr X L sc) {i : Int} (hi0 : 0 ≤ i) (hi1 : i + 6 ≤ L) (hLL : L ≤ 3072) {I J : aI1} {R : aR1} {S : aS1} {uc us : Nat} (hC : CI I R S) (hQ : RX I) {v : Int} (hv9 : v ≤ 1000000) (hP : CPI I J R S v) (huc : uc ≤ 500000) (hus : us ≤ 7000000) (kk : ∀ I' J' R' S' uc' us', CI I' R' S' → RX I' → CPI I' J' R' S' (v + 1) → uc' ≤ uc + 6 → us' ≤ us + 428 → WW X 1360 [some (kS 300), some (kR (some 0)), some (kR (some 49)), some (kI i)] [] I' J' R' S' uc' us') : WW X 793 [some (kS 300), some (kR (some 0)), some (kR (some 49)), some (kI i)] [] I J R S uc us := by
  refine ww_aload_n hX (pc := 793) dL_law_793 rfl ?_
  refine ww_aload_nS hX (pc := 794) dL_law_794 rfl ?_
  refine ww_iload_n hX (pc := 795) dL_law_795 rfl ?_
  refine ww_iconst hX (pc := 796) (x := 1) dL_law_796 rfl ?_
  refine ww_iadd hX (pc := 797) dL_law_797 ?_
  refine ww_sld hX (pc := 798) hsc (by omega) (by omega) (by omega) dL_law_798 ?_
  refine ww_aload_nS hX (pc := 799) dL_law_799 rfl ?_
  refine ww_iload_n hX (pc := 800) dL_law_800 rfl ?_
  refine ww_iconst hX (pc := 801) (x := 2) dL_law_801 rfl ?_
  refine ww_iadd hX (pc := 802) dL_law_802 ?_
  refine ww_sld hX (pc := 803) hsc (by omega) (by omega) (by omega) dL_law_803 ?_
  refine ww_aload_nS hX (pc := 804) dL_law_804 rfl ?_
  refine ww_iload_n hX (pc := 805) dL_law_805 rfl ?_
  refine ww_iconst hX (pc := 806) (x := 3) dL_law_806 rfl ?_
  refine ww_iadd hX (pc := 807) dL_law_807 ?_
  refine ww_sld hX (pc := 808) hsc (by omega) (by omega) (by omega) dL_law_808 ?_
  refine vI3 hX (pc := 809) sL_103 (xs_0 hC.1) (c8_X10_make l0 hC.1 hC.2.1 hP.2.1.1 (aScr_r hsc _).1 (aScr_r hsc _).2 (aScr_r hsc _).1 (aScr_r hsc _).2 (aScr_r hsc _).1 (aScr_r hsc _).2 hP.1.1.1.2.2.2.2.2.1 hP.1.2.2.1) (by decide) (by omega) (by omega) (Nat.le_of_ble_eq_true rfl) dL_law_809 (fun x_809 I_809 J_809 h_809 => ?_)
  have C_809 := CI_low hC h_809.1.1 h_809.1.2.2.1
  have Q_809 := RX_low hQ h_809.1.1
  refine ww_popI hX (pc := 812) dL_law_812 ?_
  refine ww_aload_n hX (pc := 813) dL_law_813 rfl ?_
  refine ww_aload_nS hX (pc := 814) dL_law_814 rfl ?_
  refine ww_iload_n hX (pc := 815) dL_law_815 rfl ?_
  refine ww_iconst hX (pc := 816) (x := 1) dL_law_816 rfl ?_
  refine ww_iadd hX (pc := 817) dL_law_817 ?_
  refine ww_sld hX (pc := 818) hsc (by omega) (by omega) (by omega) dL_law_818 ?_
  refine ww_aload_nS hX (pc := 819) dL_law_819 rfl ?_
  refine ww_iload_n hX (pc := 820) dL_law_820 rfl ?_
  refine ww_iconst hX (pc := 821) (x := 2) dL_law_821 rfl ?_
  refine ww_iadd hX (pc := 822) dL_law_822 ?_
  refine ww_sld hX (pc := 823) hsc (by omega) (by omega) (by omega) dL_law_823 ?_
  refine ww_aload_nS hX (pc := 824) dL_law_824 rfl ?_
  refine ww_iload_n hX (pc := 825) dL_law_825 rfl ?_
  refine ww_iconst hX (pc := 826) (x := 3) dL_law_826 rfl ?_
  refine ww_iadd hX (pc := 827) dL_law_827 ?_
  refine ww_sld hX (pc := 828) hsc (by omega) (by omega) (by omega) dL_law_828 ?_
  refine vI3 hX (pc := 829) sL_106 (xs_49 C_809.1) (c9_X11_make l0 C_809.1 Q_809 (aScr_r hsc _).1 (aScr_r hsc _).2 (aScr_r hsc _).1 (aScr_r hsc _).2 (aScr_r hsc _).1 (aScr_r hsc _).2) (by decide) (by omega) (by omega) (Nat.le_of_ble_eq_true rfl) dL_law_829 (fun x_829 I_829 J_829 h_829 => ?_)
  have cp_829 := CI8_make hP hC hQ h_809 h_829
  have C_829 := CI_ref C_809 (Ch_kp h_829.1.1 (by decide))
  have Q_829 := h_829.1.2.2.1
  have P_829 : CPI I_829 J_829 R S (v + 1) := cp_829
  refine ww_popI hX (pc := 832) dL_law_832 ?_
  refine ww_goto hX (pc := 833) (tgt := 1360) dL_law_833 (by decide) ?_
  exact kk _ _ _ _ _ _ C_829 Q_829 P_829 (by omega) (by omega)
set_option maxHeartbeats 4000000 in
set_option maxRecDepth 20000 in
theorem lc_22 {l0 : Launch} {X : aX} (hX : aK l0 X cL_law 4 RL ret 400 600000 7302250) {L : Nat} {sc : Nat → Int} (hsc : aScr X L sc) {i : Int} (hi0 : 0 ≤ i) (hi1 : i + 6 ≤ L) (hLL : L ≤ 3072) {I J : aI1} {R : aR1} {S : aS1} {uc us : Nat} (hC : CI I R S) (hQ : RX I) {v : Int} (hv9 : v ≤ 1000000) (hP : CPI I J R S v) (huc : uc ≤ 500000) (hus : us ≤ 7000000) (kk : ∀ I' J' R' S' uc' us', CI I' R' S' → RX I' → CPI I' J' R' S' (v + 1) → uc' ≤ uc + 6 → us' ≤ us + 428 → WW X 1360 [some (kS 300), some (kR (some 0)), some (kR (some 49)), some (kI i)] [] I' J' R' S' uc' us') : WW X 836 [some (kS 300), some (kR (some 0)), some (kR (some 49)), some (kI i)] [] I J R S uc us := by
  refine ww_aload_n hX (pc := 836) dL_law_836 rfl ?_
  refine ww_aload_nS hX (pc := 837) dL_law_837 rfl ?_
  refine ww_iload_n hX (pc := 838) dL_law_838 rfl ?_
  refine ww_iconst hX (pc := 839) (x := 1) dL_law_839 rfl ?_
  refine ww_iadd hX (pc := 840) dL_law_840 ?_
  refine ww_sld hX (pc := 841) hsc (by omega) (by omega) (by omega) dL_law_841 ?_
  refine ww_aload_nS hX (pc := 842) dL_law_842 rfl ?_
  refine ww_iload_n hX (pc := 843) dL_law_843 rfl ?_
  refine ww_iconst hX (pc := 844) (x := 2) dL_law_844 rfl ?_
  refine ww_iadd hX (pc := 845) dL_law_845 ?_
  refine ww_sld hX (pc := 846) hsc (by omega) (by omega) (by omega) dL_law_846 ?_
  refine vI2 hX (pc := 847) sL_107 (xs_0 hC.1) (c8_X10_send l0 hC.1 hC.2.1 hP.2.1.1 (aScr_r hsc _).1 (aScr_r hsc _).2 (aScr_r hsc _).1 (aScr_r hsc _).2 (CP_O hP) (CP_K hP hC)) (by decide) (by omega) (by omega) (Nat.le_of_ble_eq_true rfl) dL_law_847 (fun x_847 I_847 J_847 h_847 => ?_)
  have C_847 := CI_low hC h_847.1.1 h_847.1.2.2.1
  have Q_847 := RX_low hQ h_847.1.1
  refine ww_popI hX (pc := 850) dL_law_850 ?_
  refine ww_aload_n hX (pc := 851) dL_law_851 rfl ?_
  refine ww_aload_nS hX (pc := 852) dL_law_852 rfl ?_
  refine ww_iload_n hX (pc := 853) dL_law_853 rfl ?_
  refine ww_iconst hX (pc := 854) (x := 1) dL_law_854 rfl ?_
  refine ww_iadd hX (pc := 855) dL_law_855 ?_
  refine ww_sld hX (pc := 856) hsc (by omega) (by omega) (by omega) dL_law_856 ?_
  refine ww_aload_nS hX (pc := 857) dL_law_857 rfl ?_
  refine ww_iload_n hX (pc := 858) dL_law_858 rfl ?_
  refine ww_iconst hX (pc := 859) (x := 2) dL_law_859 rfl ?_
  refine ww_iadd hX (pc := 860) dL_law_860 ?_
  refine ww_sld hX (pc := 861) hsc (by omega) (by omega) (by omega) dL_law_861 ?_
  refine vI2 hX (pc := 862) sL_110 (xs_49 C_847.1) (c8_X11_send l0 C_847.1 Q_847 (aScr_r hsc _).1 (aScr_r hsc _).2 (aScr_r hsc _).1 (aScr_r hsc _).2 (CR_O hP (h_847.1.1 51 (by decide))) (CR_c hP hQ (h_847.1.1 51 (by decide))) (CR_K hP (h_847.1.1 51 (by decide))) (CR_q hP (fun k h1 => h_847.1.1 k (by omega)) (h_847.1.2.1 62 (by decide))) hv9 (CR_7 hP (h_847.1.1 51 (by decide)))) (by decide) (by omega) (by omega) (Nat.le_of_ble_eq_true rfl) dL_law_862 (fun x_862 I_862 J_862 h_862 => ?_)
  have cp_862 := CI8_send hP hC hQ h_847 h_862
  have C_862 := CI_ref C_847 (Ch_kp h_862.1 (by decide))
  have Q_862 := h_862.2.2.1
  have P_862 : CPI I_862 J_862 R S (v + 1) := cp_862.1
  refine ww_popI hX (pc := 865) dL_law_865 ?_
  refine ww_goto hX (pc := 866) (tgt := 1360) dL_law_866 (by decide) ?_
  exact kk _ _ _ _ _ _ C_862 Q_862 P_862 (by omega) (by omega)
set_option maxHeartbeats 4000000 in
set_option maxRecDepth 20000 in
theorem lc_23 {l0 : Launch} {X : aX} (hX : aK l0 X cL_law 4 RL ret 400 600000 7302250) {L : Nat} {sc : Nat → Int} (hsc : aScr X L sc) {i : Int} (hi0 : 0 ≤ i) (hi1 : i + 6 ≤ L) (hLL : L ≤ 3072) {I J : aI1} {R : aR1} {S : aS1} {uc us : Nat} (hC : CI I R S) (hQ : RX I) {v : Int} (hv9 : v ≤ 1000000) (hP : CPI I J R S v) (huc : uc ≤ 500000) (hus : us ≤ 7000000) (kk : ∀ I' J' R' S' uc' us', CI I' R' S' → RX I' → CPI I' J' R' S' (v + 1) → uc' ≤ uc + 6 → us' ≤ us + 428 → WW X 1360 [some (kS 300), some (kR (some 0)), some (kR (some 49)), some (kI i)] [] I' J' R' S' uc' us') : WW X 869 [some (kS 300), some (kR (some 0)), some (kR (some 49)), some (kI i)] [] I J R S uc us := by
  refine ww_aload_n hX (pc := 869) dL_law_869 rfl ?_
  refine vI0 hX (pc := 870) sL_111 (xs_0 hC.1) (c8_X10_dawn l0 hC.1 hC.2.1 hP.2.1.1 ) (by decide) (by omega) (by omega) (Nat.le_of_ble_eq_true rfl) dL_law_870 (fun x_870 I_870 J_870 h_870 => ?_)
  have C_870 := CI_low hC h_870.1.1 h_870.1.2.2.1
  have Q_870 := RX_low hQ h_870.1.1
  refine ww_popI hX (pc := 873) dL_law_873 ?_
  refine ww_aload_n hX (pc := 874) dL_law_874 rfl ?_
  refine vI0 hX (pc := 875) sL_114 (xs_49 C_870.1) (c8_X11_dawn l0 C_870.1 Q_870 ) (by decide) (by omega) (by omega) (Nat.le_of_ble_eq_true rfl) dL_law_875 (fun x_875 I_875 J_875 h_875 => ?_)
  have cp_875 := CI8_dawn hP hC hQ h_870 h_875
  have C_875 := CI_ref C_870 (Ch_kp h_875.1 (by decide))
  have Q_875 := h_875.2.2.1
  have P_875 : CPI I_875 J_875 R S (v + 1) := cp_875
  refine ww_popI hX (pc := 878) dL_law_878 ?_
  refine ww_goto hX (pc := 879) (tgt := 1360) dL_law_879 (by decide) ?_
  exact kk _ _ _ _ _ _ C_875 Q_875 P_875 (by omega) (by omega)
set_option maxHeartbeats 4000000 in
set_option maxRecDepth 20000 in
theorem lc_24 {l0 : Launch} {X : aX} (hX : aK l0 X cL_law 4 RL ret 400 600000 7302250) {L : Nat} {sc : Nat → Int} (hsc : aScr X L sc) {i : Int} (hi0 : 0 ≤ i) (hi1 : i + 6 ≤ L) (hLL : L ≤ 3072) {I J : aI1} {R : aR1} {S : aS1} {uc us : Nat} (hC : CI I R S) (hQ : RX I) {v : Int} (hv9 : v ≤ 1000000) (hP : CPI I J R S v) (huc : uc ≤ 500000) (hus : us ≤ 7000000) (kk : ∀ I' J' R' S' uc' us', CI I' R' S' → RX I' → CPI I' J' R' S' (v + 1) → uc' ≤ uc + 6 → us' ≤ us + 428 → WW X 1360 [some (kS 300), some (kR (some 0)), some (kR (some 49)), some (kI i)] [] I' J' R' S' uc' us') : WW X 882 [some (kS 300), some (kR (some 0)), some (kR (some 49)), some (kI i)] [] I J R S uc us := by
  refine ww_aload_n hX (pc := 882) dL_law_882 rfl ?_
  refine ww_aload_nS hX (pc := 883) dL_law_883 rfl ?_
  refine ww_iload_n hX (pc := 884) dL_law_884 rfl ?_
  refine ww_iconst hX (pc := 885) (x := 1) dL_law_885 rfl ?_
  refine ww_iadd hX (pc := 886) dL_law_886 ?_
  refine ww_sld hX (pc := 887) hsc (by omega) (by omega) (by omega) dL_law_887 ?_
  refine vI1 hX (pc := 888) sL_115 (xs_0 hC.1) (c9_X10_log l0 hC.1 hC.2.1 hP.2.1.1 (aScr_r hsc _).1 (aScr_r hsc _).2) (by decide) (by omega) (by omega) (Nat.le_of_ble_eq_true rfl) dL_law_888 (fun x_888 I_888 J_888 h_888 => ?_)
  have C_888 := CI_low hC h_888.1.1 h_888.1.2.2.1
  have Q_888 := RX_low hQ h_888.1.1
  refine ww_popI hX (pc := 891) dL_law_891 ?_
  refine ww_aload_n hX (pc := 892) dL_law_892 rfl ?_
  refine ww_aload_nS hX (pc := 893) dL_law_893 rfl ?_
  refine ww_iload_n hX (pc := 894) dL_law_894 rfl ?_
  refine ww_iconst hX (pc := 895) (x := 1) dL_law_895 rfl ?_
  refine ww_iadd hX (pc := 896) dL_law_896 ?_
  refine ww_sld hX (pc := 897) hsc (by omega) (by omega) (by omega) dL_law_897 ?_
  refine vI1 hX (pc := 898) sL_118 (xs_49 C_888.1) (c8_X11_log l0 C_888.1 Q_888 (aScr_r hsc _).1 (aScr_r hsc _).2) (by decide) (by omega) (by omega) (Nat.le_of_ble_eq_true rfl) dL_law_898 (fun x_898 I_898 J_898 h_898 => ?_)
  have cp_898 := CI8_log hP hC hQ h_888 h_898
  obtain ⟨rfl, rfl, h_898⟩ := h_898
  have P_898 : CPI I_888 J_888 R S (v + 1) := cp_898
  refine ww_popI hX (pc := 901) dL_law_901 ?_
  refine ww_goto hX (pc := 902) (tgt := 1360) dL_law_902 (by decide) ?_
  exact kk _ _ _ _ _ _ C_888 Q_888 P_898 (by omega) (by omega)
set_option maxHeartbeats 4000000 in
set_option maxRecDepth 20000 in
theorem lc_25 {l0 : Launch} {X : aX} (hX : aK l0 X cL_law 4 RL ret 400 600000 7302250) {L : Nat} {sc : Nat → Int} (hsc : aScr X L sc) {i : Int} (hi0 : 0 ≤ i) (hi1 : i + 6 ≤ L) (hLL : L ≤ 3072) {I J : aI1} {R : aR1} {S : aS1} {uc us : Nat} (hC : CI I R S) (hQ : RX I) {v : Int} (hv9 : v ≤ 1000000) (hP : CPI I J R S v) (huc : uc ≤ 500000) (hus : us ≤ 7000000) (kk : ∀ I' J' R' S' uc' us', CI I' R' S' → RX I' → CPI I' J' R' S' (v + 1) → uc' ≤ uc + 6 → us' ≤ us + 428 → WW X 1360 [some (kS 300), some (kR (some 0)), some (kR (some 49)), some (kI i)] [] I' J' R' S' uc' us') : WW X 905 [some (kS 300), some (kR (some 0)), some (kR (some 49)), some (kI i)] [] I J R S uc us := by
  refine ww_aload_n hX (pc := 905) dL_law_905 rfl ?_
  refine vI0 hX (pc := 906) sL_119 (xs_0 hC.1) (c8_X10_burnt l0 hC.1 hC.2.1 hP.2.1.1 ) (by decide) (by omega) (by omega) (Nat.le_of_ble_eq_true rfl) dL_law_906 (fun x_906 I_906 J_906 h_906 => ?_)
  have C_906 := CI_low hC h_906.1.1 h_906.1.2.2.1
  have Q_906 := RX_low hQ h_906.1.1
  refine ww_popI hX (pc := 909) dL_law_909 ?_
  refine ww_aload_n hX (pc := 910) dL_law_910 rfl ?_
  refine vI0 hX (pc := 911) sL_122 (xs_49 C_906.1) (c8_X11_burnt l0 C_906.1 Q_906 ) (by decide) (by omega) (by omega) (Nat.le_of_ble_eq_true rfl) dL_law_911 (fun x_911 I_911 J_911 h_911 => ?_)
  have cp_911 := CI8_burnt hP hC hQ h_906 h_911
  obtain ⟨rfl, rfl, h_911⟩ := h_911
  have P_911 : CPI I_906 J_906 R S (v + 1) := cp_911
  refine ww_popI hX (pc := 914) dL_law_914 ?_
  refine ww_goto hX (pc := 915) (tgt := 1360) dL_law_915 (by decide) ?_
  exact kk _ _ _ _ _ _ C_906 Q_906 P_911 (by omega) (by omega)
set_option maxHeartbeats 4000000 in
set_option maxRecDepth 20000 in
theorem lc_26 {l0 : Launch} {X : aX} (hX : aK l0 X cL_law 4 RL ret 400 600000 7302250) {L : Nat} {sc : Nat → Int} (hsc : aScr X L sc) {i : Int} (hi0 : 0 ≤ i) (hi1 : i + 6 ≤ L) (hLL : L ≤ 3072) {I J : aI1} {R : aR1} {S : aS1} {uc us : Nat} (hC : CI I R S) (hQ : RX I) {v : Int} (hv9 : v ≤ 1000000) (hP : CPI I J R S v) (huc : uc ≤ 500000) (hus : us ≤ 7000000) (kk : ∀ I' J' R' S' uc' us', CI I' R' S' → RX I' → CPI I' J' R' S' (v + 1) → uc' ≤ uc + 6 → us' ≤ us + 428 → WW X 1360 [some (kS 300), some (kR (some 0)), some (kR (some 49)), some (kI i)] [] I' J' R' S' uc' us') : WW X 918 [some (kS 300), some (kR (some 0)), some (kR (some 49)), some (kI i)] [] I J R S uc us := by
  refine ww_aload_n hX (pc := 918) dL_law_918 rfl ?_
  refine vI0 hX (pc := 919) sL_123 (xs_0 hC.1) (c8_X10_trail l0 hC.1 hC.2.1 hP.2.1.1 ) (by decide) (by omega) (by omega) (Nat.le_of_ble_eq_true rfl) dL_law_919 (fun x_919 I_919 J_919 h_919 => ?_)
  have C_919 := CI_low hC h_919.1.1 h_919.1.2.2.1
  have Q_919 := RX_low hQ h_919.1.1
  refine ww_popI hX (pc := 922) dL_law_922 ?_
  refine ww_aload_n hX (pc := 923) dL_law_923 rfl ?_
  refine vI0 hX (pc := 924) sL_126 (xs_49 C_919.1) (c9_X11_trail l0 C_919.1 Q_919 ) (by decide) (by omega) (by omega) (Nat.le_of_ble_eq_true rfl) dL_law_924 (fun x_924 I_924 J_924 h_924 => ?_)
  have cp_924 := CI8_trail hP hC hQ h_919 h_924
  have C_924 := CI_ref C_919 (Ch_kp h_924.1.1 (by decide))
  have Q_924 := h_924.1.2.2.1
  have P_924 : CPI I_924 J_924 R S (v + 1) := cp_924
  refine ww_popI hX (pc := 927) dL_law_927 ?_
  refine ww_goto hX (pc := 928) (tgt := 1360) dL_law_928 (by decide) ?_
  exact kk _ _ _ _ _ _ C_924 Q_924 P_924 (by omega) (by omega)
set_option maxHeartbeats 4000000 in
set_option maxRecDepth 20000 in
theorem lc_27 {l0 : Launch} {X : aX} (hX : aK l0 X cL_law 4 RL ret 400 600000 7302250) {L : Nat} {sc : Nat → Int} (hsc : aScr X L sc) {i : Int} (hi0 : 0 ≤ i) (hi1 : i + 6 ≤ L) (hLL : L ≤ 3072) {I J : aI1} {R : aR1} {S : aS1} {uc us : Nat} (hC : CI I R S) (hQ : RX I) {v : Int} (hv9 : v ≤ 1000000) (hP : CPI I J R S v) (huc : uc ≤ 500000) (hus : us ≤ 7000000) (kk : ∀ I' J' R' S' uc' us', CI I' R' S' → RX I' → CPI I' J' R' S' (v + 1) → uc' ≤ uc + 6 → us' ≤ us + 428 → WW X 1360 [some (kS 300), some (kR (some 0)), some (kR (some 49)), some (kI i)] [] I' J' R' S' uc' us') : WW X 931 [some (kS 300), some (kR (some 0)), some (kR (some 49)), some (kI i)] [] I J R S uc us := by
  refine ww_aload_n hX (pc := 931) dL_law_931 rfl ?_
  refine ww_aload_nS hX (pc := 932) dL_law_932 rfl ?_
  refine ww_iload_n hX (pc := 933) dL_law_933 rfl ?_
  refine ww_iconst hX (pc := 934) (x := 1) dL_law_934 rfl ?_
  refine ww_iadd hX (pc := 935) dL_law_935 ?_
  refine ww_sld hX (pc := 936) hsc (by omega) (by omega) (by omega) dL_law_936 ?_
  refine vI1 hX (pc := 937) sL_127 (xs_0 hC.1) (c8_X10_judge l0 hC.1 hC.2.1 hP.2.1.1 (aScr_r hsc _).1 (aScr_r hsc _).2 (CP_O hP) (CP_K hP hC)) (by decide) (by omega) (by omega) (Nat.le_of_ble_eq_true rfl) dL_law_937 (fun x_937 I_937 J_937 h_937 => ?_)
  have C_937 := CI_low hC h_937.1.1 h_937.1.2.2.1
  have Q_937 := RX_low hQ h_937.1.1
  refine ww_popI hX (pc := 940) dL_law_940 ?_
  refine ww_aload_n hX (pc := 941) dL_law_941 rfl ?_
  refine ww_aload_nS hX (pc := 942) dL_law_942 rfl ?_
  refine ww_iload_n hX (pc := 943) dL_law_943 rfl ?_
  refine ww_iconst hX (pc := 944) (x := 1) dL_law_944 rfl ?_
  refine ww_iadd hX (pc := 945) dL_law_945 ?_
  refine ww_sld hX (pc := 946) hsc (by omega) (by omega) (by omega) dL_law_946 ?_
  refine vI1 hX (pc := 947) sL_130 (xs_49 C_937.1) (c8_X11_judge l0 C_937.1 Q_937 (aScr_r hsc _).1 (aScr_r hsc _).2 (CR_O hP (h_937.1.1 51 (by decide))) (CR_c hP hQ (h_937.1.1 51 (by decide))) (CR_K hP (h_937.1.1 51 (by decide))) (CR_q hP (fun k h1 => h_937.1.1 k (by omega)) (h_937.1.2.1 62 (by decide))) hv9) (by decide) (by omega) (by omega) (Nat.le_of_ble_eq_true rfl) dL_law_947 (fun x_947 I_947 J_947 h_947 => ?_)
  have cp_947 := CI8_judge hP hC hQ h_937 h_947
  have C_947 := CI_ref C_937 (Ch_kp h_947.1 (by decide))
  have Q_947 := h_947.2.2.1
  have P_947 : CPI I_947 J_947 R S (v + 1) := cp_947
  refine ww_popI hX (pc := 950) dL_law_950 ?_
  refine ww_goto hX (pc := 951) (tgt := 1360) dL_law_951 (by decide) ?_
  exact kk _ _ _ _ _ _ C_947 Q_947 P_947 (by omega) (by omega)
set_option maxHeartbeats 4000000 in
set_option maxRecDepth 20000 in
theorem lc_28 {l0 : Launch} {X : aX} (hX : aK l0 X cL_law 4 RL ret 400 600000 7302250) {L : Nat} {sc : Nat → Int} (hsc : aScr X L sc) {i : Int} (hi0 : 0 ≤ i) (hi1 : i + 6 ≤ L) (hLL : L ≤ 3072) {I J : aI1} {R : aR1} {S : aS1} {uc us : Nat} (hC : CI I R S) (hQ : RX I) {v : Int} (hv9 : v ≤ 1000000) (hP : CPI I J R S v) (huc : uc ≤ 500000) (hus : us ≤ 7000000) (kk : ∀ I' J' R' S' uc' us', CI I' R' S' → RX I' → CPI I' J' R' S' (v + 1) → uc' ≤ uc + 6 → us' ≤ us + 428 → WW X 1360 [some (kS 300), some (kR (some 0)), some (kR (some 49)), some (kI i)] [] I' J' R' S' uc' us') : WW X 954 [some (kS 300), some (kR (some 0)), some (kR (some 49)), some (kI i)] [] I J R S uc us := by
  refine ww_aload_n hX (pc := 954) dL_law_954 rfl ?_
  refine ww_aload_nS hX (pc := 955) dL_law_955 rfl ?_
  refine ww_iload_n hX (pc := 956) dL_law_956 rfl ?_
  refine ww_iconst hX (pc := 957) (x := 1) dL_law_957 rfl ?_
  refine ww_iadd hX (pc := 958) dL_law_958 ?_
  refine ww_sld hX (pc := 959) hsc (by omega) (by omega) (by omega) dL_law_959 ?_
  refine ww_aload_nS hX (pc := 960) dL_law_960 rfl ?_
  refine ww_iload_n hX (pc := 961) dL_law_961 rfl ?_
  refine ww_iconst hX (pc := 962) (x := 2) dL_law_962 rfl ?_
  refine ww_iadd hX (pc := 963) dL_law_963 ?_
  refine ww_sld hX (pc := 964) hsc (by omega) (by omega) (by omega) dL_law_964 ?_
  refine ww_aload_nS hX (pc := 965) dL_law_965 rfl ?_
  refine ww_iload_n hX (pc := 966) dL_law_966 rfl ?_
  refine ww_iconst hX (pc := 967) (x := 3) dL_law_967 rfl ?_
  refine ww_iadd hX (pc := 968) dL_law_968 ?_
  refine ww_sld hX (pc := 969) hsc (by omega) (by omega) (by omega) dL_law_969 ?_
  refine vJ3 hX (pc := 970) sL_131 (xs_0 hC.1) (c8_X10_rows l0 hC.1 hC.2.1 hP.2.1.1 (aScr_r hsc _).1 (aScr_r hsc _).2 (aScr_r hsc _).1 (aScr_r hsc _).2 (aScr_r hsc _).1 (aScr_r hsc _).2 (CP_O hP) (CP_K hP hC)) (by decide) (by omega) (by omega) (Nat.le_of_ble_eq_true rfl) dL_law_970 (fun x_970 I_970 J_970 h_970 => ?_)
  have C_970 := CI_low hC h_970.1.1 h_970.1.2.2.1
  have Q_970 := RX_low hQ h_970.1.1
  refine ww_pop2 hX (pc := 973) dL_law_973 ?_
  refine ww_aload_n hX (pc := 974) dL_law_974 rfl ?_
  refine ww_aload_nS hX (pc := 975) dL_law_975 rfl ?_
  refine ww_iload_n hX (pc := 976) dL_law_976 rfl ?_
  refine ww_iconst hX (pc := 977) (x := 1) dL_law_977 rfl ?_
  refine ww_iadd hX (pc := 978) dL_law_978 ?_
  refine ww_sld hX (pc := 979) hsc (by omega) (by omega) (by omega) dL_law_979 ?_
  refine ww_aload_nS hX (pc := 980) dL_law_980 rfl ?_
  refine ww_iload_n hX (pc := 981) dL_law_981 rfl ?_
  refine ww_iconst hX (pc := 982) (x := 2) dL_law_982 rfl ?_
  refine ww_iadd hX (pc := 983) dL_law_983 ?_
  refine ww_sld hX (pc := 984) hsc (by omega) (by omega) (by omega) dL_law_984 ?_
  refine ww_aload_nS hX (pc := 985) dL_law_985 rfl ?_
  refine ww_iload_n hX (pc := 986) dL_law_986 rfl ?_
  refine ww_iconst hX (pc := 987) (x := 3) dL_law_987 rfl ?_
  refine ww_iadd hX (pc := 988) dL_law_988 ?_
  refine ww_sld hX (pc := 989) hsc (by omega) (by omega) (by omega) dL_law_989 ?_
  refine vJ3 hX (pc := 990) sL_135 (xs_49 C_970.1) (c8_X11_rows l0 C_970.1 Q_970 (aScr_r hsc _).1 (aScr_r hsc _).2 (aScr_r hsc _).1 (aScr_r hsc _).2 (aScr_r hsc _).1 (aScr_r hsc _).2 (CR_O hP (h_970.1.1 51 (by decide))) (CR_c hP hQ (h_970.1.1 51 (by decide))) (CR_K hP (h_970.1.1 51 (by decide))) (CR_q hP (fun k h1 => h_970.1.1 k (by omega)) (h_970.1.2.1 62 (by decide))) hv9) (by decide) (by omega) (by omega) (Nat.le_of_ble_eq_true rfl) dL_law_990 (fun x_990 I_990 J_990 h_990 => ?_)
  have cp_990 := CI8_rows hP hC hQ h_970 h_990
  have C_990 := CI_ref C_970 (Ch_kp h_990.1 (by decide))
  have Q_990 := h_990.2.2.1
  have P_990 : CPI I_990 J_990 R S (v + 1) := cp_990
  refine ww_pop2 hX (pc := 993) dL_law_993 ?_
  refine ww_goto hX (pc := 994) (tgt := 1360) dL_law_994 (by decide) ?_
  exact kk _ _ _ _ _ _ C_990 Q_990 P_990 (by omega) (by omega)
set_option maxHeartbeats 4000000 in
set_option maxRecDepth 20000 in
theorem lc_29 {l0 : Launch} {X : aX} (hX : aK l0 X cL_law 4 RL ret 400 600000 7302250) {L : Nat} {sc : Nat → Int} (hsc : aScr X L sc) {i : Int} (hi0 : 0 ≤ i) (hi1 : i + 6 ≤ L) (hLL : L ≤ 3072) {I J : aI1} {R : aR1} {S : aS1} {uc us : Nat} (hC : CI I R S) (hQ : RX I) {v : Int} (hv9 : v ≤ 1000000) (hP : CPI I J R S v) (huc : uc ≤ 500000) (hus : us ≤ 7000000) (kk : ∀ I' J' R' S' uc' us', CI I' R' S' → RX I' → CPI I' J' R' S' (v + 1) → uc' ≤ uc + 6 → us' ≤ us + 428 → WW X 1360 [some (kS 300), some (kR (some 0)), some (kR (some 49)), some (kI i)] [] I' J' R' S' uc' us') : WW X 997 [some (kS 300), some (kR (some 0)), some (kR (some 49)), some (kI i)] [] I J R S uc us := by
  refine ww_aload_n hX (pc := 997) dL_law_997 rfl ?_
  refine ww_aload_nS hX (pc := 998) dL_law_998 rfl ?_
  refine ww_iload_n hX (pc := 999) dL_law_999 rfl ?_
  refine ww_iconst hX (pc := 1000) (x := 1) dL_law_1000 rfl ?_
  refine ww_iadd hX (pc := 1001) dL_law_1001 ?_
  refine ww_sld hX (pc := 1002) hsc (by omega) (by omega) (by omega) dL_law_1002 ?_
  refine ww_aload_nS hX (pc := 1003) dL_law_1003 rfl ?_
  refine ww_iload_n hX (pc := 1004) dL_law_1004 rfl ?_
  refine ww_iconst hX (pc := 1005) (x := 2) dL_law_1005 rfl ?_
  refine ww_iadd hX (pc := 1006) dL_law_1006 ?_
  refine ww_sld hX (pc := 1007) hsc (by omega) (by omega) (by omega) dL_law_1007 ?_
  refine ww_aload_nS hX (pc := 1008) dL_law_1008 rfl ?_
  refine ww_iload_n hX (pc := 1009) dL_law_1009 rfl ?_
  refine ww_iconst hX (pc := 1010) (x := 3) dL_law_1010 rfl ?_
  refine ww_iadd hX (pc := 1011) dL_law_1011 ?_
  refine ww_sld hX (pc := 1012) hsc (by omega) (by omega) (by omega) dL_law_1012 ?_
  refine ww_aload_nS hX (pc := 1013) dL_law_1013 rfl ?_
  refine ww_iload_n hX (pc := 1014) dL_law_1014 rfl ?_
  refine ww_iconst hX (pc := 1015) (x := 4) dL_law_1015 rfl ?_
  refine ww_iadd hX (pc := 1016) dL_law_1016 ?_
  refine ww_sld hX (pc := 1017) hsc (by omega) (by omega) (by omega) dL_law_1017 ?_
  refine ww_aload_nS hX (pc := 1018) dL_law_1018 rfl ?_
  refine ww_iload_n hX (pc := 1019) dL_law_1019 rfl ?_
  refine ww_iconst hX (pc := 1020) (x := 5) dL_law_1020 rfl ?_
  refine ww_iadd hX (pc := 1021) dL_law_1021 ?_
  refine ww_sld hX (pc := 1022) hsc (by omega) (by omega) (by omega) dL_law_1022 ?_
  refine vJ5 hX (pc := 1023) sL_136 (xs_0 hC.1) (c8_X10_could l0 hC.1 hC.2.1 hP.2.1.1 (aScr_r hsc _).1 (aScr_r hsc _).2 (aScr_r hsc _).1 (aScr_r hsc _).2 (aScr_r hsc _).1 (aScr_r hsc _).2 (aScr_r hsc _).1 (aScr_r hsc _).2 (aScr_r hsc _).1 (aScr_r hsc _).2 (CP_O hP) (CP_K hP hC)) (by decide) (by omega) (by omega) (Nat.le_of_ble_eq_true rfl) dL_law_1023 (fun x_1023 I_1023 J_1023 h_1023 => ?_)
  have C_1023 := CI_low hC h_1023.1.1 h_1023.1.2.2.1
  have Q_1023 := RX_low hQ h_1023.1.1
  refine ww_aload_n hX (pc := 1026) dL_law_1026 rfl ?_
  refine ww_aload_nS hX (pc := 1027) dL_law_1027 rfl ?_
  refine ww_iload_n hX (pc := 1028) dL_law_1028 rfl ?_
  refine ww_iconst hX (pc := 1029) (x := 1) dL_law_1029 rfl ?_
  refine ww_iadd hX (pc := 1030) dL_law_1030 ?_
  refine ww_sld hX (pc := 1031) hsc (by omega) (by omega) (by omega) dL_law_1031 ?_
  refine ww_aload_nS hX (pc := 1032) dL_law_1032 rfl ?_
  refine ww_iload_n hX (pc := 1033) dL_law_1033 rfl ?_
  refine ww_iconst hX (pc := 1034) (x := 2) dL_law_1034 rfl ?_
  refine ww_iadd hX (pc := 1035) dL_law_1035 ?_
  refine ww_sld hX (pc := 1036) hsc (by omega) (by omega) (by omega) dL_law_1036 ?_
  refine ww_aload_nS hX (pc := 1037) dL_law_1037 rfl ?_
  refine ww_iload_n hX (pc := 1038) dL_law_1038 rfl ?_
  refine ww_iconst hX (pc := 1039) (x := 3) dL_law_1039 rfl ?_
  refine ww_iadd hX (pc := 1040) dL_law_1040 ?_
  refine ww_sld hX (pc := 1041) hsc (by omega) (by omega) (by omega) dL_law_1041 ?_
  refine ww_aload_nS hX (pc := 1042) dL_law_1042 rfl ?_
  refine ww_iload_n hX (pc := 1043) dL_law_1043 rfl ?_
  refine ww_iconst hX (pc := 1044) (x := 4) dL_law_1044 rfl ?_
  refine ww_iadd hX (pc := 1045) dL_law_1045 ?_
  refine ww_sld hX (pc := 1046) hsc (by omega) (by omega) (by omega) dL_law_1046 ?_
  refine ww_aload_nS hX (pc := 1047) dL_law_1047 rfl ?_
  refine ww_iload_n hX (pc := 1048) dL_law_1048 rfl ?_
  refine ww_iconst hX (pc := 1049) (x := 5) dL_law_1049 rfl ?_
  refine ww_iadd hX (pc := 1050) dL_law_1050 ?_
  refine ww_sld hX (pc := 1051) hsc (by omega) (by omega) (by omega) dL_law_1051 ?_
  refine vJ5 hX (pc := 1052) sL_140 (xs_49 C_1023.1) (c8_X11_could l0 C_1023.1 Q_1023 (aScr_r hsc _).1 (aScr_r hsc _).2 (aScr_r hsc _).1 (aScr_r hsc _).2 (aScr_r hsc _).1 (aScr_r hsc _).2 (aScr_r hsc _).1 (aScr_r hsc _).2 (aScr_r hsc _).1 (aScr_r hsc _).2 (CR_O hP (h_1023.1.1 51 (by decide))) (CR_c hP hQ (h_1023.1.1 51 (by decide))) (CR_K hP (h_1023.1.1 51 (by decide))) (CR_q hP (fun k h1 => h_1023.1.1 k (by omega)) (h_1023.1.2.1 62 (by decide))) hv9) (by decide) (by omega) (by omega) (Nat.le_of_ble_eq_true rfl) dL_law_1052 (fun x_1052 I_1052 J_1052 h_1052 => ?_)
  have cp_1052 := CI8_could hP hC hQ h_1023 h_1052
  have exy := A8_could hP hC hQ h_1023 h_1052
  have C_1052 := CI_ref C_1023 (Ch_kp h_1052.1 (by decide))
  have Q_1052 := h_1052.2.2.1
  have P_1052 : CPI I_1052 J_1052 R S (v + 1) := cp_1052
  refine ww_lcmp hX (pc := 1055) dL_law_1055 ?_
  refine ww_if_eq hX (pc := 1056) (tgt := 1360) dL_law_1056 (by decide) (fun h_1056 => ?_) (fun h_1056 => ?_)
  · simp only [w32_mod] at h_1056
    exact kk _ _ _ _ _ _ C_1052 Q_1052 P_1052 (by omega) (by omega)
  · simp only [w32_mod] at h_1056
    refine ww_iconst hX (pc := 1059) (x := 0) dL_law_1059 rfl ?_
    exfalso
    exact l_cmp_ne h_1056 (congrArg w64 exy)
set_option maxHeartbeats 4000000 in
set_option maxRecDepth 20000 in
theorem lc_30 {l0 : Launch} {X : aX} (hX : aK l0 X cL_law 4 RL ret 400 600000 7302250) {L : Nat} {sc : Nat → Int} (hsc : aScr X L sc) {i : Int} (hi0 : 0 ≤ i) (hi1 : i + 6 ≤ L) (hLL : L ≤ 3072) {I J : aI1} {R : aR1} {S : aS1} {uc us : Nat} (hC : CI I R S) (hQ : RX I) {v : Int} (hv9 : v ≤ 1000000) (hP : CPI I J R S v) (huc : uc ≤ 500000) (hus : us ≤ 7000000) (kk : ∀ I' J' R' S' uc' us', CI I' R' S' → RX I' → CPI I' J' R' S' (v + 1) → uc' ≤ uc + 6 → us' ≤ us + 428 → WW X 1360 [some (kS 300), some (kR (some 0)), some (kR (some 49)), some (kI i)] [] I' J' R' S' uc' us') : WW X 1061 [some (kS 300), some (kR (some 0)), some (kR (some 49)), some (kI i)] [] I J R S uc us := by
  refine ww_aload_n hX (pc := 1061) dL_law_1061 rfl ?_
  refine ww_aload_nS hX (pc := 1062) dL_law_1062 rfl ?_
  refine ww_iload_n hX (pc := 1063) dL_law_1063 rfl ?_
  refine ww_iconst hX (pc := 1064) (x := 1) dL_law_1064 rfl ?_
  refine ww_iadd hX (pc := 1065) dL_law_1065 ?_
  refine ww_sld hX (pc := 1066) hsc (by omega) (by omega) (by omega) dL_law_1066 ?_
  refine ww_aload_nS hX (pc := 1067) dL_law_1067 rfl ?_
  refine ww_iload_n hX (pc := 1068) dL_law_1068 rfl ?_
  refine ww_iconst hX (pc := 1069) (x := 2) dL_law_1069 rfl ?_
  refine ww_iadd hX (pc := 1070) dL_law_1070 ?_
  refine ww_sld hX (pc := 1071) hsc (by omega) (by omega) (by omega) dL_law_1071 ?_
  refine vI2 hX (pc := 1072) sL_141 (xs_0 hC.1) (c8_X10_maybe l0 hC.1 hC.2.1 hP.2.1.1 (aScr_r hsc _).1 (aScr_r hsc _).2 (aScr_r hsc _).1 (aScr_r hsc _).2) (by decide) (by omega) (by omega) (Nat.le_of_ble_eq_true rfl) dL_law_1072 (fun x_1072 I_1072 J_1072 h_1072 => ?_)
  have C_1072 := CI_low hC h_1072.1.1 h_1072.1.2.2.1
  have Q_1072 := RX_low hQ h_1072.1.1
  refine ww_popI hX (pc := 1075) dL_law_1075 ?_
  refine ww_aload_n hX (pc := 1076) dL_law_1076 rfl ?_
  refine ww_aload_nS hX (pc := 1077) dL_law_1077 rfl ?_
  refine ww_iload_n hX (pc := 1078) dL_law_1078 rfl ?_
  refine ww_iconst hX (pc := 1079) (x := 1) dL_law_1079 rfl ?_
  refine ww_iadd hX (pc := 1080) dL_law_1080 ?_
  refine ww_sld hX (pc := 1081) hsc (by omega) (by omega) (by omega) dL_law_1081 ?_
  refine ww_aload_nS hX (pc := 1082) dL_law_1082 rfl ?_
  refine ww_iload_n hX (pc := 1083) dL_law_1083 rfl ?_
  refine ww_iconst hX (pc := 1084) (x := 2) dL_law_1084 rfl ?_
  refine ww_iadd hX (pc := 1085) dL_law_1085 ?_
  refine ww_sld hX (pc := 1086) hsc (by omega) (by omega) (by omega) dL_law_1086 ?_
  refine vI2 hX (pc := 1087) sL_144 (xs_49 C_1072.1) (c9_X11_maybe l0 C_1072.1 Q_1072 (aScr_r hsc _).1 (aScr_r hsc _).2 (aScr_r hsc _).1 (aScr_r hsc _).2 (CR_c hP hQ (h_1072.1.1 51 (by decide)))) (by decide) (by omega) (by omega) (Nat.le_of_ble_eq_true rfl) dL_law_1087 (fun x_1087 I_1087 J_1087 h_1087 => ?_)
  have cp_1087 := CI8_maybe hP hC hQ h_1072 h_1087
  have C_1087 := CI_ref C_1072 (Ch_kp h_1087.1.1 (by decide))
  have Q_1087 := h_1087.1.2.2.1
  have P_1087 : CPI I_1087 J_1087 R S (v + 1) := cp_1087
  refine ww_popI hX (pc := 1090) dL_law_1090 ?_
  refine ww_goto hX (pc := 1091) (tgt := 1360) dL_law_1091 (by decide) ?_
  exact kk _ _ _ _ _ _ C_1087 Q_1087 P_1087 (by omega) (by omega)
set_option maxHeartbeats 4000000 in
set_option maxRecDepth 20000 in
theorem lc_31 {l0 : Launch} {X : aX} (hX : aK l0 X cL_law 4 RL ret 400 600000 7302250) {L : Nat} {sc : Nat → Int} (hsc : aScr X L sc) {i : Int} (hi0 : 0 ≤ i) (hi1 : i + 6 ≤ L) (hLL : L ≤ 3072) {I J : aI1} {R : aR1} {S : aS1} {uc us : Nat} (hC : CI I R S) (hQ : RX I) {v : Int} (hv9 : v ≤ 1000000) (hP : CPI I J R S v) (huc : uc ≤ 500000) (hus : us ≤ 7000000) (kk : ∀ I' J' R' S' uc' us', CI I' R' S' → RX I' → CPI I' J' R' S' (v + 1) → uc' ≤ uc + 6 → us' ≤ us + 428 → WW X 1360 [some (kS 300), some (kR (some 0)), some (kR (some 49)), some (kI i)] [] I' J' R' S' uc' us') : WW X 1094 [some (kS 300), some (kR (some 0)), some (kR (some 49)), some (kI i)] [] I J R S uc us := by
  refine ww_aload_n hX (pc := 1094) dL_law_1094 rfl ?_
  refine vI0 hX (pc := 1095) sL_145 (xs_0 hC.1) (c8_X10_safe l0 hC.1 hC.2.1 hP.2.1.1 ) (by decide) (by omega) (by omega) (Nat.le_of_ble_eq_true rfl) dL_law_1095 (fun x_1095 I_1095 J_1095 h_1095 => ?_)
  have C_1095 := CI_low hC h_1095.1.1 h_1095.1.2.2.1
  have Q_1095 := RX_low hQ h_1095.1.1
  refine ww_popI hX (pc := 1098) dL_law_1098 ?_
  refine ww_aload_n hX (pc := 1099) dL_law_1099 rfl ?_
  refine vI0 hX (pc := 1100) sL_148 (xs_49 C_1095.1) (c9_X11_safe l0 C_1095.1 Q_1095  (CR_c hP hQ (h_1095.1.1 51 (by decide)))) (by decide) (by omega) (by omega) (Nat.le_of_ble_eq_true rfl) dL_law_1100 (fun x_1100 I_1100 J_1100 h_1100 => ?_)
  have cp_1100 := CI8_safe hP hC hQ h_1095 h_1100
  have C_1100 := CI_ref C_1095 (Ch_kp h_1100.1.1 (by decide))
  have Q_1100 := h_1100.1.2.2.1
  have P_1100 : CPI I_1100 J_1100 R S (v + 1) := cp_1100
  refine ww_popI hX (pc := 1103) dL_law_1103 ?_
  refine ww_goto hX (pc := 1104) (tgt := 1360) dL_law_1104 (by decide) ?_
  exact kk _ _ _ _ _ _ C_1100 Q_1100 P_1100 (by omega) (by omega)
set_option maxHeartbeats 4000000 in
set_option maxRecDepth 20000 in
theorem lc_32 {l0 : Launch} {X : aX} (hX : aK l0 X cL_law 4 RL ret 400 600000 7302250) {L : Nat} {sc : Nat → Int} (hsc : aScr X L sc) {i : Int} (hi0 : 0 ≤ i) (hi1 : i + 6 ≤ L) (hLL : L ≤ 3072) {I J : aI1} {R : aR1} {S : aS1} {uc us : Nat} (hC : CI I R S) (hQ : RX I) {v : Int} (hv9 : v ≤ 1000000) (hP : CPI I J R S v) (huc : uc ≤ 500000) (hus : us ≤ 7000000) (kk : ∀ I' J' R' S' uc' us', CI I' R' S' → RX I' → CPI I' J' R' S' (v + 1) → uc' ≤ uc + 6 → us' ≤ us + 428 → WW X 1360 [some (kS 300), some (kR (some 0)), some (kR (some 49)), some (kI i)] [] I' J' R' S' uc' us') : WW X 1107 [some (kS 300), some (kR (some 0)), some (kR (some 49)), some (kI i)] [] I J R S uc us := by
  refine ww_aload_n hX (pc := 1107) dL_law_1107 rfl ?_
  refine ww_aload_nS hX (pc := 1108) dL_law_1108 rfl ?_
  refine ww_iload_n hX (pc := 1109) dL_law_1109 rfl ?_
  refine ww_iconst hX (pc := 1110) (x := 1) dL_law_1110 rfl ?_
  refine ww_iadd hX (pc := 1111) dL_law_1111 ?_
  refine ww_sld hX (pc := 1112) hsc (by omega) (by omega) (by omega) dL_law_1112 ?_
  refine vI1 hX (pc := 1113) sL_149 (xs_0 hC.1) (c8_X10_spy l0 hC.1 hC.2.1 hP.2.1.1 (aScr_r hsc _).1 (aScr_r hsc _).2) (by decide) (by omega) (by omega) (Nat.le_of_ble_eq_true rfl) dL_law_1113 (fun x_1113 I_1113 J_1113 h_1113 => ?_)
  have C_1113 := CI_low hC h_1113.1.1 h_1113.1.2.2.1
  have Q_1113 := RX_low hQ h_1113.1.1
  refine ww_popI hX (pc := 1116) dL_law_1116 ?_
  refine ww_aload_n hX (pc := 1117) dL_law_1117 rfl ?_
  refine ww_aload_nS hX (pc := 1118) dL_law_1118 rfl ?_
  refine ww_iload_n hX (pc := 1119) dL_law_1119 rfl ?_
  refine ww_iconst hX (pc := 1120) (x := 1) dL_law_1120 rfl ?_
  refine ww_iadd hX (pc := 1121) dL_law_1121 ?_
  refine ww_sld hX (pc := 1122) hsc (by omega) (by omega) (by omega) dL_law_1122 ?_
  refine vI1 hX (pc := 1123) sL_152 (xs_49 C_1113.1) (c9_X11_spy l0 C_1113.1 Q_1113 (aScr_r hsc _).1 (aScr_r hsc _).2 (CR_c hP hQ (h_1113.1.1 51 (by decide)))) (by decide) (by omega) (by omega) (Nat.le_of_ble_eq_true rfl) dL_law_1123 (fun x_1123 I_1123 J_1123 h_1123 => ?_)
  have cp_1123 := CI8_spy hP hC hQ h_1113 h_1123
  have C_1123 := CI_ref C_1113 (Ch_kp h_1123.1.1 (by decide))
  have Q_1123 := h_1123.1.2.2.1
  have P_1123 : CPI I_1123 J_1123 R S (v + 1) := cp_1123
  refine ww_popI hX (pc := 1126) dL_law_1126 ?_
  refine ww_goto hX (pc := 1127) (tgt := 1360) dL_law_1127 (by decide) ?_
  exact kk _ _ _ _ _ _ C_1123 Q_1123 P_1123 (by omega) (by omega)
set_option maxHeartbeats 4000000 in
set_option maxRecDepth 20000 in
theorem lc_33 {l0 : Launch} {X : aX} (hX : aK l0 X cL_law 4 RL ret 400 600000 7302250) {L : Nat} {sc : Nat → Int} (hsc : aScr X L sc) {i : Int} (hi0 : 0 ≤ i) (hi1 : i + 6 ≤ L) (hLL : L ≤ 3072) {I J : aI1} {R : aR1} {S : aS1} {uc us : Nat} (hC : CI I R S) (hQ : RX I) {v : Int} (hv9 : v ≤ 1000000) (hP : CPI I J R S v) (huc : uc ≤ 500000) (hus : us ≤ 7000000) (kk : ∀ I' J' R' S' uc' us', CI I' R' S' → RX I' → CPI I' J' R' S' (v + 1) → uc' ≤ uc + 6 → us' ≤ us + 428 → WW X 1360 [some (kS 300), some (kR (some 0)), some (kR (some 49)), some (kI i)] [] I' J' R' S' uc' us') : WW X 1130 [some (kS 300), some (kR (some 0)), some (kR (some 49)), some (kI i)] [] I J R S uc us := by
  refine ww_aload_n hX (pc := 1130) dL_law_1130 rfl ?_
  refine ww_aload_nS hX (pc := 1131) dL_law_1131 rfl ?_
  refine ww_iload_n hX (pc := 1132) dL_law_1132 rfl ?_
  refine ww_iconst hX (pc := 1133) (x := 1) dL_law_1133 rfl ?_
  refine ww_iadd hX (pc := 1134) dL_law_1134 ?_
  refine ww_sld hX (pc := 1135) hsc (by omega) (by omega) (by omega) dL_law_1135 ?_
  refine vI1 hX (pc := 1136) sL_153 (xs_0 hC.1) (c8_X10_want l0 hC.1 hC.2.1 hP.2.1.1 (aScr_r hsc _).1 (aScr_r hsc _).2) (by decide) (by omega) (by omega) (Nat.le_of_ble_eq_true rfl) dL_law_1136 (fun x_1136 I_1136 J_1136 h_1136 => ?_)
  have C_1136 := CI_low hC h_1136.1.1 h_1136.1.2.2.1
  have Q_1136 := RX_low hQ h_1136.1.1
  refine ww_popI hX (pc := 1139) dL_law_1139 ?_
  refine ww_aload_n hX (pc := 1140) dL_law_1140 rfl ?_
  refine ww_aload_nS hX (pc := 1141) dL_law_1141 rfl ?_
  refine ww_iload_n hX (pc := 1142) dL_law_1142 rfl ?_
  refine ww_iconst hX (pc := 1143) (x := 1) dL_law_1143 rfl ?_
  refine ww_iadd hX (pc := 1144) dL_law_1144 ?_
  refine ww_sld hX (pc := 1145) hsc (by omega) (by omega) (by omega) dL_law_1145 ?_
  refine vI1 hX (pc := 1146) sL_156 (xs_49 C_1136.1) (c9_X11_want l0 C_1136.1 Q_1136 (aScr_r hsc _).1 (aScr_r hsc _).2) (by decide) (by omega) (by omega) (Nat.le_of_ble_eq_true rfl) dL_law_1146 (fun x_1146 I_1146 J_1146 h_1146 => ?_)
  have cp_1146 := CI8_want hP hC hQ h_1136 h_1146
  have C_1146 := CI_ref C_1136 (Ch_kp h_1146.1.1 (by decide))
  have Q_1146 := h_1146.1.2.2.1
  have P_1146 : CPI I_1146 J_1146 R S (v + 1) := cp_1146
  refine ww_popI hX (pc := 1149) dL_law_1149 ?_
  refine ww_goto hX (pc := 1150) (tgt := 1360) dL_law_1150 (by decide) ?_
  exact kk _ _ _ _ _ _ C_1146 Q_1146 P_1146 (by omega) (by omega)
set_option maxHeartbeats 4000000 in
set_option maxRecDepth 20000 in
theorem lc_34 {l0 : Launch} {X : aX} (hX : aK l0 X cL_law 4 RL ret 400 600000 7302250) {L : Nat} {sc : Nat → Int} (hsc : aScr X L sc) {i : Int} (hi0 : 0 ≤ i) (hi1 : i + 6 ≤ L) (hLL : L ≤ 3072) {I J : aI1} {R : aR1} {S : aS1} {uc us : Nat} (hC : CI I R S) (hQ : RX I) {v : Int} (hv9 : v ≤ 1000000) (hP : CPI I J R S v) (huc : uc ≤ 500000) (hus : us ≤ 7000000) (kk : ∀ I' J' R' S' uc' us', CI I' R' S' → RX I' → CPI I' J' R' S' (v + 1) → uc' ≤ uc + 6 → us' ≤ us + 428 → WW X 1360 [some (kS 300), some (kR (some 0)), some (kR (some 49)), some (kI i)] [] I' J' R' S' uc' us') : WW X 1153 [some (kS 300), some (kR (some 0)), some (kR (some 49)), some (kI i)] [] I J R S uc us := by
  refine ww_aload_n hX (pc := 1153) dL_law_1153 rfl ?_
  refine vI0 hX (pc := 1154) sL_157 (xs_0 hC.1) (c8_X10_unwant l0 hC.1 hC.2.1 hP.2.1.1 ) (by decide) (by omega) (by omega) (Nat.le_of_ble_eq_true rfl) dL_law_1154 (fun x_1154 I_1154 J_1154 h_1154 => ?_)
  have C_1154 := CI_low hC h_1154.1.1 h_1154.1.2.2.1
  have Q_1154 := RX_low hQ h_1154.1.1
  refine ww_popI hX (pc := 1157) dL_law_1157 ?_
  refine ww_aload_n hX (pc := 1158) dL_law_1158 rfl ?_
  refine vI0 hX (pc := 1159) sL_160 (xs_49 C_1154.1) (c9_X11_unwant l0 C_1154.1 Q_1154 ) (by decide) (by omega) (by omega) (Nat.le_of_ble_eq_true rfl) dL_law_1159 (fun x_1159 I_1159 J_1159 h_1159 => ?_)
  have cp_1159 := CI8_unwant hP hC hQ h_1154 h_1159
  have C_1159 := CI_ref C_1154 (Ch_kp h_1159.1.1 (by decide))
  have Q_1159 := h_1159.1.2.2.1
  have P_1159 : CPI I_1159 J_1159 R S (v + 1) := cp_1159
  refine ww_popI hX (pc := 1162) dL_law_1162 ?_
  refine ww_goto hX (pc := 1163) (tgt := 1360) dL_law_1163 (by decide) ?_
  exact kk _ _ _ _ _ _ C_1159 Q_1159 P_1159 (by omega) (by omega)
set_option maxHeartbeats 4000000 in
set_option maxRecDepth 20000 in
theorem lc_35 {l0 : Launch} {X : aX} (hX : aK l0 X cL_law 4 RL ret 400 600000 7302250) {L : Nat} {sc : Nat → Int} (hsc : aScr X L sc) {i : Int} (hi0 : 0 ≤ i) (hi1 : i + 6 ≤ L) (hLL : L ≤ 3072) {I J : aI1} {R : aR1} {S : aS1} {uc us : Nat} (hC : CI I R S) (hQ : RX I) {v : Int} (hv9 : v ≤ 1000000) (hP : CPI I J R S v) (huc : uc ≤ 500000) (hus : us ≤ 7000000) (kk : ∀ I' J' R' S' uc' us', CI I' R' S' → RX I' → CPI I' J' R' S' (v + 1) → uc' ≤ uc + 6 → us' ≤ us + 428 → WW X 1360 [some (kS 300), some (kR (some 0)), some (kR (some 49)), some (kI i)] [] I' J' R' S' uc' us') : WW X 1166 [some (kS 300), some (kR (some 0)), some (kR (some 49)), some (kI i)] [] I J R S uc us := by
  refine ww_aload_n hX (pc := 1166) dL_law_1166 rfl ?_
  refine ww_aload_nS hX (pc := 1167) dL_law_1167 rfl ?_
  refine ww_iload_n hX (pc := 1168) dL_law_1168 rfl ?_
  refine ww_iconst hX (pc := 1169) (x := 1) dL_law_1169 rfl ?_
  refine ww_iadd hX (pc := 1170) dL_law_1170 ?_
  refine ww_sld hX (pc := 1171) hsc (by omega) (by omega) (by omega) dL_law_1171 ?_
  refine vI1 hX (pc := 1172) sL_161 (xs_0 hC.1) (c8_X10_cheap l0 hC.1 hC.2.1 hP.2.1.1 (aScr_r hsc _).1 (aScr_r hsc _).2) (by decide) (by omega) (by omega) (Nat.le_of_ble_eq_true rfl) dL_law_1172 (fun x_1172 I_1172 J_1172 h_1172 => ?_)
  have C_1172 := CI_low hC h_1172.1.1 h_1172.1.2.2.1
  have Q_1172 := RX_low hQ h_1172.1.1
  refine ww_popI hX (pc := 1175) dL_law_1175 ?_
  refine ww_aload_n hX (pc := 1176) dL_law_1176 rfl ?_
  refine ww_aload_nS hX (pc := 1177) dL_law_1177 rfl ?_
  refine ww_iload_n hX (pc := 1178) dL_law_1178 rfl ?_
  refine ww_iconst hX (pc := 1179) (x := 1) dL_law_1179 rfl ?_
  refine ww_iadd hX (pc := 1180) dL_law_1180 ?_
  refine ww_sld hX (pc := 1181) hsc (by omega) (by omega) (by omega) dL_law_1181 ?_
  refine vI1 hX (pc := 1182) sL_164 (xs_49 C_1172.1) (c9_X11_cheap l0 C_1172.1 Q_1172 (aScr_r hsc _).1 (aScr_r hsc _).2) (by decide) (by omega) (by omega) (Nat.le_of_ble_eq_true rfl) dL_law_1182 (fun x_1182 I_1182 J_1182 h_1182 => ?_)
  have cp_1182 := CI8_cheap hP hC hQ h_1172 h_1182
  have C_1182 := CI_ref C_1172 (Ch_kp h_1182.1.1 (by decide))
  have Q_1182 := h_1182.1.2.2.1
  have P_1182 : CPI I_1182 J_1182 R S (v + 1) := cp_1182
  refine ww_popI hX (pc := 1185) dL_law_1185 ?_
  refine ww_goto hX (pc := 1186) (tgt := 1360) dL_law_1186 (by decide) ?_
  exact kk _ _ _ _ _ _ C_1182 Q_1182 P_1182 (by omega) (by omega)
set_option maxHeartbeats 4000000 in
set_option maxRecDepth 20000 in
theorem lc_36 {l0 : Launch} {X : aX} (hX : aK l0 X cL_law 4 RL ret 400 600000 7302250) {L : Nat} {sc : Nat → Int} (hsc : aScr X L sc) {i : Int} (hi0 : 0 ≤ i) (hi1 : i + 6 ≤ L) (hLL : L ≤ 3072) {I J : aI1} {R : aR1} {S : aS1} {uc us : Nat} (hC : CI I R S) (hQ : RX I) {v : Int} (hv9 : v ≤ 1000000) (hP : CPI I J R S v) (huc : uc ≤ 500000) (hus : us ≤ 7000000) (kk : ∀ I' J' R' S' uc' us', CI I' R' S' → RX I' → CPI I' J' R' S' (v + 1) → uc' ≤ uc + 6 → us' ≤ us + 428 → WW X 1360 [some (kS 300), some (kR (some 0)), some (kR (some 49)), some (kI i)] [] I' J' R' S' uc' us') : WW X 1189 [some (kS 300), some (kR (some 0)), some (kR (some 49)), some (kI i)] [] I J R S uc us := by
  refine ww_aload_n hX (pc := 1189) dL_law_1189 rfl ?_
  refine ww_aload_nS hX (pc := 1190) dL_law_1190 rfl ?_
  refine ww_iload_n hX (pc := 1191) dL_law_1191 rfl ?_
  refine ww_iconst hX (pc := 1192) (x := 1) dL_law_1192 rfl ?_
  refine ww_iadd hX (pc := 1193) dL_law_1193 ?_
  refine ww_sld hX (pc := 1194) hsc (by omega) (by omega) (by omega) dL_law_1194 ?_
  refine vI1 hX (pc := 1195) sL_165 (xs_0 hC.1) (c8_X10_plan l0 hC.1 hC.2.1 hP.2.1.1 (aScr_r hsc _).1 (aScr_r hsc _).2) (by decide) (by omega) (by omega) (Nat.le_of_ble_eq_true rfl) dL_law_1195 (fun x_1195 I_1195 J_1195 h_1195 => ?_)
  have C_1195 := CI_low hC h_1195.1.1 h_1195.1.2.2.1
  have Q_1195 := RX_low hQ h_1195.1.1
  refine ww_popI hX (pc := 1198) dL_law_1198 ?_
  refine ww_aload_n hX (pc := 1199) dL_law_1199 rfl ?_
  refine ww_aload_nS hX (pc := 1200) dL_law_1200 rfl ?_
  refine ww_iload_n hX (pc := 1201) dL_law_1201 rfl ?_
  refine ww_iconst hX (pc := 1202) (x := 1) dL_law_1202 rfl ?_
  refine ww_iadd hX (pc := 1203) dL_law_1203 ?_
  refine ww_sld hX (pc := 1204) hsc (by omega) (by omega) (by omega) dL_law_1204 ?_
  refine vI1 hX (pc := 1205) sL_168 (xs_49 C_1195.1) (c9_X11_plan l0 C_1195.1 Q_1195 (aScr_r hsc _).1 (aScr_r hsc _).2) (by decide) (by omega) (by omega) (Nat.le_of_ble_eq_true rfl) dL_law_1205 (fun x_1205 I_1205 J_1205 h_1205 => ?_)
  have cp_1205 := CI8_plan hP hC hQ h_1195 h_1205
  have C_1205 := CI_ref C_1195 (Ch_kp h_1205.1.1 (by decide))
  have Q_1205 := h_1205.1.2.2.1
  have P_1205 : CPI I_1205 J_1205 R S (v + 1) := cp_1205
  refine ww_popI hX (pc := 1208) dL_law_1208 ?_
  refine ww_goto hX (pc := 1209) (tgt := 1360) dL_law_1209 (by decide) ?_
  exact kk _ _ _ _ _ _ C_1205 Q_1205 P_1205 (by omega) (by omega)
set_option maxHeartbeats 4000000 in
set_option maxRecDepth 20000 in
theorem lc_37 {l0 : Launch} {X : aX} (hX : aK l0 X cL_law 4 RL ret 400 600000 7302250) {L : Nat} {sc : Nat → Int} (hsc : aScr X L sc) {i : Int} (hi0 : 0 ≤ i) (hi1 : i + 6 ≤ L) (hLL : L ≤ 3072) {I J : aI1} {R : aR1} {S : aS1} {uc us : Nat} (hC : CI I R S) (hQ : RX I) {v : Int} (hv9 : v ≤ 1000000) (hP : CPI I J R S v) (huc : uc ≤ 500000) (hus : us ≤ 7000000) (kk : ∀ I' J' R' S' uc' us', CI I' R' S' → RX I' → CPI I' J' R' S' (v + 1) → uc' ≤ uc + 6 → us' ≤ us + 428 → WW X 1360 [some (kS 300), some (kR (some 0)), some (kR (some 49)), some (kI i)] [] I' J' R' S' uc' us') : WW X 1212 [some (kS 300), some (kR (some 0)), some (kR (some 49)), some (kI i)] [] I J R S uc us := by
  refine ww_aload_n hX (pc := 1212) dL_law_1212 rfl ?_
  refine ww_aload_nS hX (pc := 1213) dL_law_1213 rfl ?_
  refine ww_iload_n hX (pc := 1214) dL_law_1214 rfl ?_
  refine ww_iconst hX (pc := 1215) (x := 1) dL_law_1215 rfl ?_
  refine ww_iadd hX (pc := 1216) dL_law_1216 ?_
  refine ww_sld hX (pc := 1217) hsc (by omega) (by omega) (by omega) dL_law_1217 ?_
  refine ww_aload_nS hX (pc := 1218) dL_law_1218 rfl ?_
  refine ww_iload_n hX (pc := 1219) dL_law_1219 rfl ?_
  refine ww_iconst hX (pc := 1220) (x := 2) dL_law_1220 rfl ?_
  refine ww_iadd hX (pc := 1221) dL_law_1221 ?_
  refine ww_sld hX (pc := 1222) hsc (by omega) (by omega) (by omega) dL_law_1222 ?_
  refine ww_aload_nS hX (pc := 1223) dL_law_1223 rfl ?_
  refine ww_iload_n hX (pc := 1224) dL_law_1224 rfl ?_
  refine ww_iconst hX (pc := 1225) (x := 3) dL_law_1225 rfl ?_
  refine ww_iadd hX (pc := 1226) dL_law_1226 ?_
  refine ww_sld hX (pc := 1227) hsc (by omega) (by omega) (by omega) dL_law_1227 ?_
  refine vI3 hX (pc := 1228) sL_169 (xs_0 hC.1) (c8_X10_night l0 hC.1 hC.2.1 hP.2.1.1 (aScr_r hsc _).1 (aScr_r hsc _).2 (aScr_r hsc _).1 (aScr_r hsc _).2 (aScr_r hsc _).1 (aScr_r hsc _).2 (CP_O hP) (CP_K hP hC)) (by decide) (by omega) (by omega) (Nat.le_of_ble_eq_true rfl) dL_law_1228 (fun x_1228 I_1228 J_1228 h_1228 => ?_)
  have C_1228 := CI_low hC h_1228.1.1 h_1228.1.2.2.1
  have Q_1228 := RX_low hQ h_1228.1.1
  refine ww_popI hX (pc := 1231) dL_law_1231 ?_
  refine ww_aload_n hX (pc := 1232) dL_law_1232 rfl ?_
  refine ww_aload_nS hX (pc := 1233) dL_law_1233 rfl ?_
  refine ww_iload_n hX (pc := 1234) dL_law_1234 rfl ?_
  refine ww_iconst hX (pc := 1235) (x := 1) dL_law_1235 rfl ?_
  refine ww_iadd hX (pc := 1236) dL_law_1236 ?_
  refine ww_sld hX (pc := 1237) hsc (by omega) (by omega) (by omega) dL_law_1237 ?_
  refine ww_aload_nS hX (pc := 1238) dL_law_1238 rfl ?_
  refine ww_iload_n hX (pc := 1239) dL_law_1239 rfl ?_
  refine ww_iconst hX (pc := 1240) (x := 2) dL_law_1240 rfl ?_
  refine ww_iadd hX (pc := 1241) dL_law_1241 ?_
  refine ww_sld hX (pc := 1242) hsc (by omega) (by omega) (by omega) dL_law_1242 ?_
  refine ww_aload_nS hX (pc := 1243) dL_law_1243 rfl ?_
  refine ww_iload_n hX (pc := 1244) dL_law_1244 rfl ?_
  refine ww_iconst hX (pc := 1245) (x := 3) dL_law_1245 rfl ?_
  refine ww_iadd hX (pc := 1246) dL_law_1246 ?_
  refine ww_sld hX (pc := 1247) hsc (by omega) (by omega) (by omega) dL_law_1247 ?_
  refine vI3 hX (pc := 1248) sL_172 (xs_49 C_1228.1) (c8_X11_night l0 C_1228.1 Q_1228 (aScr_r hsc _).1 (aScr_r hsc _).2 (aScr_r hsc _).1 (aScr_r hsc _).2 (aScr_r hsc _).1 (aScr_r hsc _).2 (CR_O hP (h_1228.1.1 51 (by decide))) (CR_c hP hQ (h_1228.1.1 51 (by decide))) (CR_K hP (h_1228.1.1 51 (by decide))) (CR_q hP (fun k h1 => h_1228.1.1 k (by omega)) (h_1228.1.2.1 62 (by decide))) hv9) (by decide) (by omega) (by omega) (Nat.le_of_ble_eq_true rfl) dL_law_1248 (fun x_1248 I_1248 J_1248 h_1248 => ?_)
  have cp_1248 := CI8_night hP hC hQ h_1228 h_1248
  have C_1248 := CI_ref C_1228 (Ch_kp h_1248.1 (by decide))
  have Q_1248 := h_1248.2.2.1
  have P_1248 : CPI I_1248 J_1248 R S (v + 1) := cp_1248.1
  refine ww_popI hX (pc := 1251) dL_law_1251 ?_
  refine ww_goto hX (pc := 1252) (tgt := 1360) dL_law_1252 (by decide) ?_
  exact kk _ _ _ _ _ _ C_1248 Q_1248 P_1248 (by omega) (by omega)
set_option maxHeartbeats 4000000 in
set_option maxRecDepth 20000 in
theorem lc_38 {l0 : Launch} {X : aX} (hX : aK l0 X cL_law 4 RL ret 400 600000 7302250) {L : Nat} {sc : Nat → Int} (hsc : aScr X L sc) {i : Int} (hi0 : 0 ≤ i) (hi1 : i + 6 ≤ L) (hLL : L ≤ 3072) {I J : aI1} {R : aR1} {S : aS1} {uc us : Nat} (hC : CI I R S) (hQ : RX I) {v : Int} (hv9 : v ≤ 1000000) (hP : CPI I J R S v) (huc : uc ≤ 500000) (hus : us ≤ 7000000) (kk : ∀ I' J' R' S' uc' us', CI I' R' S' → RX I' → CPI I' J' R' S' (v + 1) → uc' ≤ uc + 6 → us' ≤ us + 428 → WW X 1360 [some (kS 300), some (kR (some 0)), some (kR (some 49)), some (kI i)] [] I' J' R' S' uc' us') : WW X 1255 [some (kS 300), some (kR (some 0)), some (kR (some 49)), some (kI i)] [] I J R S uc us := by
  refine ww_aload_n hX (pc := 1255) dL_law_1255 rfl ?_
  refine ww_aload_nS hX (pc := 1256) dL_law_1256 rfl ?_
  refine ww_iload_n hX (pc := 1257) dL_law_1257 rfl ?_
  refine ww_iconst hX (pc := 1258) (x := 1) dL_law_1258 rfl ?_
  refine ww_iadd hX (pc := 1259) dL_law_1259 ?_
  refine ww_sld hX (pc := 1260) hsc (by omega) (by omega) (by omega) dL_law_1260 ?_
  refine vI1 hX (pc := 1261) sL_173 (xs_0 hC.1) (c9_X10_drawn l0 hC.1 hC.2.1 hP.2.1.1 (aScr_r hsc _).1 (aScr_r hsc _).2) (by decide) (by omega) (by omega) (Nat.le_of_ble_eq_true rfl) dL_law_1261 (fun x_1261 I_1261 J_1261 h_1261 => ?_)
  have C_1261 := CI_low hC h_1261.1.1 h_1261.1.2.2.1
  have Q_1261 := RX_low hQ h_1261.1.1
  refine ww_popI hX (pc := 1264) dL_law_1264 ?_
  refine ww_aload_n hX (pc := 1265) dL_law_1265 rfl ?_
  refine ww_aload_nS hX (pc := 1266) dL_law_1266 rfl ?_
  refine ww_iload_n hX (pc := 1267) dL_law_1267 rfl ?_
  refine ww_iconst hX (pc := 1268) (x := 1) dL_law_1268 rfl ?_
  refine ww_iadd hX (pc := 1269) dL_law_1269 ?_
  refine ww_sld hX (pc := 1270) hsc (by omega) (by omega) (by omega) dL_law_1270 ?_
  refine vI1 hX (pc := 1271) sL_176 (xs_49 C_1261.1) (c8_X11_drawn l0 C_1261.1 Q_1261 (aScr_r hsc _).1 (aScr_r hsc _).2) (by decide) (by omega) (by omega) (Nat.le_of_ble_eq_true rfl) dL_law_1271 (fun x_1271 I_1271 J_1271 h_1271 => ?_)
  have cp_1271 := CI8_drawn hP hC hQ h_1261 h_1271
  obtain ⟨rfl, rfl, h_1271⟩ := h_1271
  have P_1271 : CPI I_1261 J_1261 R S (v + 1) := cp_1271
  refine ww_popI hX (pc := 1274) dL_law_1274 ?_
  refine ww_goto hX (pc := 1275) (tgt := 1360) dL_law_1275 (by decide) ?_
  exact kk _ _ _ _ _ _ C_1261 Q_1261 P_1271 (by omega) (by omega)
set_option maxHeartbeats 4000000 in
set_option maxRecDepth 20000 in
theorem lc_39 {l0 : Launch} {X : aX} (hX : aK l0 X cL_law 4 RL ret 400 600000 7302250) {L : Nat} {sc : Nat → Int} (hsc : aScr X L sc) {i : Int} (hi0 : 0 ≤ i) (hi1 : i + 6 ≤ L) (hLL : L ≤ 3072) {I J : aI1} {R : aR1} {S : aS1} {uc us : Nat} (hC : CI I R S) (hQ : RX I) {v : Int} (hv9 : v ≤ 1000000) (hP : CPI I J R S v) (huc : uc ≤ 500000) (hus : us ≤ 7000000) (kk : ∀ I' J' R' S' uc' us', CI I' R' S' → RX I' → CPI I' J' R' S' (v + 1) → uc' ≤ uc + 6 → us' ≤ us + 428 → WW X 1360 [some (kS 300), some (kR (some 0)), some (kR (some 49)), some (kI i)] [] I' J' R' S' uc' us') : WW X 1278 [some (kS 300), some (kR (some 0)), some (kR (some 49)), some (kI i)] [] I J R S uc us := by
  refine ww_aload_n hX (pc := 1278) dL_law_1278 rfl ?_
  refine ww_aload_nS hX (pc := 1279) dL_law_1279 rfl ?_
  refine ww_iload_n hX (pc := 1280) dL_law_1280 rfl ?_
  refine ww_iconst hX (pc := 1281) (x := 1) dL_law_1281 rfl ?_
  refine ww_iadd hX (pc := 1282) dL_law_1282 ?_
  refine ww_sld hX (pc := 1283) hsc (by omega) (by omega) (by omega) dL_law_1283 ?_
  refine vD1 hX (pc := 1284) sL_177 (xs_0 hC.1) (c8_X10_image l0 hC hP.2.1.1 (aScr_r hsc _).1 (aScr_r hsc _).2 hP.1.1.1.2.2.2.2.2.2.2.1) (by decide) (by omega) (by omega) (Nat.le_of_ble_eq_true rfl) dL_law_1284 (fun x_1284 I_1284 J_1284 R_1284 S_1284 h_1284 => ?_)
  have C_1284 := h_1284.1.1
  have Q_1284 := RX_mid hQ (fun k h1 h2 => (h_1284.1.2.1 k h1 h2).1)
  refine ww_popI hX (pc := 1287) dL_law_1287 ?_
  refine ww_aload_n hX (pc := 1288) dL_law_1288 rfl ?_
  refine ww_aload_nS hX (pc := 1289) dL_law_1289 rfl ?_
  refine ww_iload_n hX (pc := 1290) dL_law_1290 rfl ?_
  refine ww_iconst hX (pc := 1291) (x := 1) dL_law_1291 rfl ?_
  refine ww_iadd hX (pc := 1292) dL_law_1292 ?_
  refine ww_sld hX (pc := 1293) hsc (by omega) (by omega) (by omega) dL_law_1293 ?_
  refine vI1 hX (pc := 1294) sL_180 (xs_49 C_1284.1) (c9_X11_image l0 C_1284.1 Q_1284 (aScr_r hsc _).1 (aScr_r hsc _).2) (by decide) (by omega) (by omega) (Nat.le_of_ble_eq_true rfl) dL_law_1294 (fun x_1294 I_1294 J_1294 h_1294 => ?_)
  have cp_1294 := CI8_image hP hC hQ h_1284 h_1294
  have C_1294 := CI_ref C_1284 (Ch_kp h_1294.1.1 (by decide))
  have Q_1294 := h_1294.1.2.2.1
  have P_1294 : CPI I_1294 J_1294 R_1284 S_1284 (v + 1) := cp_1294
  refine ww_popI hX (pc := 1297) dL_law_1297 ?_
  refine ww_goto hX (pc := 1298) (tgt := 1360) dL_law_1298 (by decide) ?_
  exact kk _ _ _ _ _ _ C_1294 Q_1294 P_1294 (by omega) (by omega)
set_option maxHeartbeats 4000000 in
set_option maxRecDepth 20000 in
theorem lc_40 {l0 : Launch} {X : aX} (hX : aK l0 X cL_law 4 RL ret 400 600000 7302250) {L : Nat} {sc : Nat → Int} (hsc : aScr X L sc) {i : Int} (hi0 : 0 ≤ i) (hi1 : i + 6 ≤ L) (hLL : L ≤ 3072) {I J : aI1} {R : aR1} {S : aS1} {uc us : Nat} (hC : CI I R S) (hQ : RX I) {v : Int} (hv9 : v ≤ 1000000) (hP : CPI I J R S v) (huc : uc ≤ 500000) (hus : us ≤ 7000000) (kk : ∀ I' J' R' S' uc' us', CI I' R' S' → RX I' → CPI I' J' R' S' (v + 1) → uc' ≤ uc + 6 → us' ≤ us + 428 → WW X 1360 [some (kS 300), some (kR (some 0)), some (kR (some 49)), some (kI i)] [] I' J' R' S' uc' us') : WW X 1301 [some (kS 300), some (kR (some 0)), some (kR (some 49)), some (kI i)] [] I J R S uc us := by
  refine ww_aload_n hX (pc := 1301) dL_law_1301 rfl ?_
  refine ww_aload_nS hX (pc := 1302) dL_law_1302 rfl ?_
  refine ww_iload_n hX (pc := 1303) dL_law_1303 rfl ?_
  refine ww_iconst hX (pc := 1304) (x := 1) dL_law_1304 rfl ?_
  refine ww_iadd hX (pc := 1305) dL_law_1305 ?_
  refine ww_sld hX (pc := 1306) hsc (by omega) (by omega) (by omega) dL_law_1306 ?_
  refine vD1 hX (pc := 1307) sL_181 (xs_0 hC.1) (c8_X10_back l0 hC hP.2.1.1 (aScr_r hsc _).1 (aScr_r hsc _).2) (by decide) (by omega) (by omega) (Nat.le_of_ble_eq_true rfl) dL_law_1307 (fun x_1307 I_1307 J_1307 R_1307 S_1307 h_1307 => ?_)
  have C_1307 := h_1307.1.1
  have Q_1307 := RX_mid hQ (fun k h1 h2 => (h_1307.1.2.1 k h1 h2).1)
  refine ww_popI hX (pc := 1310) dL_law_1310 ?_
  refine ww_aload_n hX (pc := 1311) dL_law_1311 rfl ?_
  refine ww_aload_nS hX (pc := 1312) dL_law_1312 rfl ?_
  refine ww_iload_n hX (pc := 1313) dL_law_1313 rfl ?_
  refine ww_iconst hX (pc := 1314) (x := 1) dL_law_1314 rfl ?_
  refine ww_iadd hX (pc := 1315) dL_law_1315 ?_
  refine ww_sld hX (pc := 1316) hsc (by omega) (by omega) (by omega) dL_law_1316 ?_
  refine vI1 hX (pc := 1317) sL_184 (xs_49 C_1307.1) (c9_X11_back l0 C_1307.1 Q_1307 (aScr_r hsc _).1 (aScr_r hsc _).2) (by decide) (by omega) (by omega) (Nat.le_of_ble_eq_true rfl) dL_law_1317 (fun x_1317 I_1317 J_1317 h_1317 => ?_)
  have cp_1317 := CI8_back hP hC hQ h_1307 h_1317
  have C_1317 := CI_ref C_1307 (Ch_kp h_1317.1.1 (by decide))
  have Q_1317 := h_1317.1.2.2.1
  have P_1317 : CPI I_1317 J_1317 R_1307 S_1307 (v + 1) := cp_1317
  refine ww_popI hX (pc := 1320) dL_law_1320 ?_
  refine ww_goto hX (pc := 1321) (tgt := 1360) dL_law_1321 (by decide) ?_
  exact kk _ _ _ _ _ _ C_1317 Q_1317 P_1317 (by omega) (by omega)
set_option maxHeartbeats 4000000 in
set_option maxRecDepth 20000 in
theorem lc_41 {l0 : Launch} {X : aX} (hX : aK l0 X cL_law 4 RL ret 400 600000 7302250) {L : Nat} {sc : Nat → Int} (hsc : aScr X L sc) {i : Int} (hi0 : 0 ≤ i) (hi1 : i + 6 ≤ L) (hLL : L ≤ 3072) {I J : aI1} {R : aR1} {S : aS1} {uc us : Nat} (hC : CI I R S) (hQ : RX I) {v : Int} (hv9 : v ≤ 1000000) (hP : CPI I J R S v) (huc : uc ≤ 500000) (hus : us ≤ 7000000) (kk : ∀ I' J' R' S' uc' us', CI I' R' S' → RX I' → CPI I' J' R' S' (v + 1) → uc' ≤ uc + 6 → us' ≤ us + 428 → WW X 1360 [some (kS 300), some (kR (some 0)), some (kR (some 49)), some (kI i)] [] I' J' R' S' uc' us') : WW X 1324 [some (kS 300), some (kR (some 0)), some (kR (some 49)), some (kI i)] [] I J R S uc us := by
  refine ww_aload_n hX (pc := 1324) dL_law_1324 rfl ?_
  refine ww_aload_nS hX (pc := 1325) dL_law_1325 rfl ?_
  refine ww_iload_n hX (pc := 1326) dL_law_1326 rfl ?_
  refine ww_iconst hX (pc := 1327) (x := 1) dL_law_1327 rfl ?_
  refine ww_iadd hX (pc := 1328) dL_law_1328 ?_
  refine ww_sld hX (pc := 1329) hsc (by omega) (by omega) (by omega) dL_law_1329 ?_
  refine vI1 hX (pc := 1330) sL_185 (xs_0 hC.1) (c9_X10_count l0 hC.1 hC.2.1 hP.2.1.1 (aScr_r hsc _).1 (aScr_r hsc _).2) (by decide) (by omega) (by omega) (Nat.le_of_ble_eq_true rfl) dL_law_1330 (fun x_1330 I_1330 J_1330 h_1330 => ?_)
  have C_1330 := CI_low hC h_1330.1.1 h_1330.1.2.2.1
  have Q_1330 := RX_low hQ h_1330.1.1
  refine ww_popI hX (pc := 1333) dL_law_1333 ?_
  refine ww_aload_n hX (pc := 1334) dL_law_1334 rfl ?_
  refine ww_aload_nS hX (pc := 1335) dL_law_1335 rfl ?_
  refine ww_iload_n hX (pc := 1336) dL_law_1336 rfl ?_
  refine ww_iconst hX (pc := 1337) (x := 1) dL_law_1337 rfl ?_
  refine ww_iadd hX (pc := 1338) dL_law_1338 ?_
  refine ww_sld hX (pc := 1339) hsc (by omega) (by omega) (by omega) dL_law_1339 ?_
  refine vI1 hX (pc := 1340) sL_188 (xs_49 C_1330.1) (c8_X11_count l0 C_1330.1 Q_1330 (aScr_r hsc _).1 (aScr_r hsc _).2 (CR_c hP hQ (h_1330.1.1 51 (by decide)))) (by decide) (by omega) (by omega) (Nat.le_of_ble_eq_true rfl) dL_law_1340 (fun x_1340 I_1340 J_1340 h_1340 => ?_)
  have cp_1340 := CI8_count hP hC hQ h_1330 h_1340
  obtain ⟨rfl, rfl, h_1340⟩ := h_1340
  have P_1340 : CPI I_1330 J_1330 R S (v + 1) := cp_1340
  refine ww_popI hX (pc := 1343) dL_law_1343 ?_
  refine ww_goto hX (pc := 1344) (tgt := 1360) dL_law_1344 (by decide) ?_
  exact kk _ _ _ _ _ _ C_1330 Q_1330 P_1340 (by omega) (by omega)
set_option maxHeartbeats 4000000 in
set_option maxRecDepth 20000 in
theorem lc_42 {l0 : Launch} {X : aX} (hX : aK l0 X cL_law 4 RL ret 400 600000 7302250) {L : Nat} {sc : Nat → Int} (hsc : aScr X L sc) {i : Int} (hi0 : 0 ≤ i) (hi1 : i + 6 ≤ L) (hLL : L ≤ 3072) {I J : aI1} {R : aR1} {S : aS1} {uc us : Nat} (hC : CI I R S) (hQ : RX I) {v : Int} (hv9 : v ≤ 1000000) (hP : CPI I J R S v) (huc : uc ≤ 500000) (hus : us ≤ 7000000) (kk : ∀ I' J' R' S' uc' us', CI I' R' S' → RX I' → CPI I' J' R' S' (v + 1) → uc' ≤ uc + 6 → us' ≤ us + 428 → WW X 1360 [some (kS 300), some (kR (some 0)), some (kR (some 49)), some (kI i)] [] I' J' R' S' uc' us') : WW X 1347 [some (kS 300), some (kR (some 0)), some (kR (some 49)), some (kI i)] [] I J R S uc us := by
  refine ww_aload_n hX (pc := 1347) dL_law_1347 rfl ?_
  refine vI0 hX (pc := 1348) sL_189 (xs_0 hC.1) (c9_X10_status l0 hC.1 hC.2.1 hP.2.1.1 ) (by decide) (by omega) (by omega) (Nat.le_of_ble_eq_true rfl) dL_law_1348 (fun x_1348 I_1348 J_1348 h_1348 => ?_)
  have C_1348 := CI_low hC h_1348.1.1 h_1348.1.2.2.1
  have Q_1348 := RX_low hQ h_1348.1.1
  refine ww_popI hX (pc := 1351) dL_law_1351 ?_
  refine ww_aload_n hX (pc := 1352) dL_law_1352 rfl ?_
  refine vI0 hX (pc := 1353) sL_192 (xs_49 C_1348.1) (c8_X11_status l0 C_1348.1 Q_1348 ) (by decide) (by omega) (by omega) (Nat.le_of_ble_eq_true rfl) dL_law_1353 (fun x_1353 I_1353 J_1353 h_1353 => ?_)
  have cp_1353 := CI8_status hP hC hQ h_1348 h_1353
  obtain ⟨rfl, rfl, h_1353⟩ := h_1353
  have P_1353 : CPI I_1348 J_1348 R S (v + 1) := cp_1353
  refine ww_popI hX (pc := 1356) dL_law_1356 ?_
  refine ww_goto hX (pc := 1357) (tgt := 1360) dL_law_1357 (by decide) ?_
  exact kk _ _ _ _ _ _ C_1348 Q_1348 P_1353 (by omega) (by omega)
