set_option maxHeartbeats 4000000 in
set_option maxRecDepth 20000 in
theorem lc_21 {l0 : Launch} {X : aX} (hX : aK l0 X cL_law 4 RL ret 400 600000 7302250) {L : Nat} {sc : Nat → Int} (hsc : aScr X L sc) {i : Int} (hi0 : 0 ≤ i) (hi1 : i + 6 ≤ L) (hLL : L ≤ 3072) {I J : aI1} {R : aR1} {S : aS1} {uc us : Nat} (hC : CI I R S) (hQ : RX I) (hP : CPF I R) (huc : uc ≤ 500000) (hus : us ≤ 7000000) (kk : ∀ I' J' R' S' uc' us', CI I' R' S' → RX I' → CPF I' R' → uc' ≤ uc + 6 → us' ≤ us + 428 → WW X 1359 [some (kS 300), some (kR (some 0)), some (kR (some 49)), some (kI i)] [] I' J' R' S' uc' us') : WW X 793 [some (kS 300), some (kR (some 0)), some (kR (some 49)), some (kI i)] [] I J R S uc us := by
  refine ww_aload_n hX (pc := 793) dL_law_793 rfl ?_
  refine ww_aload_nS hX (pc := 794) dL_law_794 rfl ?_
  refine ww_iload_n hX (pc := 795) dL_law_795 rfl ?_
  refine ww_iconst hX (pc := 796) (x := 1) dL_law_796 rfl ?_
  refine ww_iadd hX (pc := 797) dL_law_797 ?_
  refine ww_sld hX (pc := 798) hsc (by omega) (by omega) (by omega) dL_law_798 ?_
  refine ww_aload_nS hX (pc := 799) dL_law_799 rfl ?_
  refine ww_iload_n hX (pc := 800) dL_law_800 rfl ?_
  refine ww_iconst hX (pc := 801) (x := 2) dL_law_801 rfl ?_
  refine ww_iadd hX (pc := 802) dL_law_802 ?_
  refine ww_sld hX (pc := 803) hsc (by omega) (by omega) (by omega) dL_law_803 ?_
  refine ww_aload_nS hX (pc := 804) dL_law_804 rfl ?_
  refine ww_iload_n hX (pc := 805) dL_law_805 rfl ?_
  refine ww_iconst hX (pc := 806) (x := 3) dL_law_806 rfl ?_
  refine ww_iadd hX (pc := 807) dL_law_807 ?_
  refine ww_sld hX (pc := 808) hsc (by omega) (by omega) (by omega) dL_law_808 ?_
  refine vI3 hX (pc := 809) sL_103 (xs_0 hC.1) (c5_X10_make l0 hC.1 hC.2.1 (aScr_r hsc _).1 (aScr_r hsc _).2 (aScr_r hsc _).1 (aScr_r hsc _).2 (aScr_r hsc _).1 (aScr_r hsc _).2 hP.2.2.2.2.2.1) (by decide) (by omega) (by omega) (Nat.le_of_ble_eq_true rfl) dL_law_809 (fun x_809 I_809 J_809 h_809 => ?_)
  have C_809 := CI_low hC h_809.1 h_809.2.2.1
  have Q_809 := RX_low hQ h_809.1
  refine ww_popI hX (pc := 812) dL_law_812 ?_
  refine ww_aload_n hX (pc := 813) dL_law_813 rfl ?_
  refine ww_aload_nS hX (pc := 814) dL_law_814 rfl ?_
  refine ww_iload_n hX (pc := 815) dL_law_815 rfl ?_
  refine ww_iconst hX (pc := 816) (x := 1) dL_law_816 rfl ?_
  refine ww_iadd hX (pc := 817) dL_law_817 ?_
  refine ww_sld hX (pc := 818) hsc (by omega) (by omega) (by omega) dL_law_818 ?_
  refine ww_aload_nS hX (pc := 819) dL_law_819 rfl ?_
  refine ww_iload_n hX (pc := 820) dL_law_820 rfl ?_
  refine ww_iconst hX (pc := 821) (x := 2) dL_law_821 rfl ?_
  refine ww_iadd hX (pc := 822) dL_law_822 ?_
  refine ww_sld hX (pc := 823) hsc (by omega) (by omega) (by omega) dL_law_823 ?_
  refine ww_aload_nS hX (pc := 824) dL_law_824 rfl ?_
  refine ww_iload_n hX (pc := 825) dL_law_825 rfl ?_
  refine ww_iconst hX (pc := 826) (x := 3) dL_law_826 rfl ?_
  refine ww_iadd hX (pc := 827) dL_law_827 ?_
  refine ww_sld hX (pc := 828) hsc (by omega) (by omega) (by omega) dL_law_828 ?_
  refine vI3 hX (pc := 829) sL_106 (xs_49 C_809.1) (c5_X11_make l0 C_809.1 Q_809 (aScr_r hsc _).1 (aScr_r hsc _).2 (aScr_r hsc _).1 (aScr_r hsc _).2 (aScr_r hsc _).1 (aScr_r hsc _).2) (by decide) (by omega) (by omega) (Nat.le_of_ble_eq_true rfl) dL_law_829 (fun x_829 I_829 J_829 h_829 => ?_)
  have cp_829 := CF_make hP hC h_809 h_829
  have C_829 := CI_ref C_809 (Ch_kp h_829.1 (by decide))
  have Q_829 := h_829.2.2.1
  have P_829 := cp_829.1
  refine ww_popI hX (pc := 832) dL_law_832 ?_
  refine ww_goto hX (pc := 833) (tgt := 1359) dL_law_833 (by decide) ?_
  exact kk _ _ _ _ _ _ C_829 Q_829 P_829 (by omega) (by omega)
set_option maxHeartbeats 4000000 in
set_option maxRecDepth 20000 in
theorem lc_22 {l0 : Launch} {X : aX} (hX : aK l0 X cL_law 4 RL ret 400 600000 7302250) {L : Nat} {sc : Nat → Int} (hsc : aScr X L sc) {i : Int} (hi0 : 0 ≤ i) (hi1 : i + 6 ≤ L) (hLL : L ≤ 3072) {I J : aI1} {R : aR1} {S : aS1} {uc us : Nat} (hC : CI I R S) (hQ : RX I) (hP : CPF I R) (huc : uc ≤ 500000) (hus : us ≤ 7000000) (kk : ∀ I' J' R' S' uc' us', CI I' R' S' → RX I' → CPF I' R' → uc' ≤ uc + 6 → us' ≤ us + 428 → WW X 1359 [some (kS 300), some (kR (some 0)), some (kR (some 49)), some (kI i)] [] I' J' R' S' uc' us') : WW X 836 [some (kS 300), some (kR (some 0)), some (kR (some 49)), some (kI i)] [] I J R S uc us := by
  refine ww_aload_n hX (pc := 836) dL_law_836 rfl ?_
  refine ww_aload_nS hX (pc := 837) dL_law_837 rfl ?_
  refine ww_iload_n hX (pc := 838) dL_law_838 rfl ?_
  refine ww_iconst hX (pc := 839) (x := 1) dL_law_839 rfl ?_
  refine ww_iadd hX (pc := 840) dL_law_840 ?_
  refine ww_sld hX (pc := 841) hsc (by omega) (by omega) (by omega) dL_law_841 ?_
  refine ww_aload_nS hX (pc := 842) dL_law_842 rfl ?_
  refine ww_iload_n hX (pc := 843) dL_law_843 rfl ?_
  refine ww_iconst hX (pc := 844) (x := 2) dL_law_844 rfl ?_
  refine ww_iadd hX (pc := 845) dL_law_845 ?_
  refine ww_sld hX (pc := 846) hsc (by omega) (by omega) (by omega) dL_law_846 ?_
  refine vI2 hX (pc := 847) sL_107 (xs_0 hC.1) (c5_X10_send l0 hC.1 hC.2.1 (aScr_r hsc _).1 (aScr_r hsc _).2 (aScr_r hsc _).1 (aScr_r hsc _).2) (by decide) (by omega) (by omega) (Nat.le_of_ble_eq_true rfl) dL_law_847 (fun x_847 I_847 J_847 h_847 => ?_)
  have C_847 := CI_low hC h_847.1 h_847.2.2.1
  have Q_847 := RX_low hQ h_847.1
  refine ww_popI hX (pc := 850) dL_law_850 ?_
  refine ww_aload_n hX (pc := 851) dL_law_851 rfl ?_
  refine ww_aload_nS hX (pc := 852) dL_law_852 rfl ?_
  refine ww_iload_n hX (pc := 853) dL_law_853 rfl ?_
  refine ww_iconst hX (pc := 854) (x := 1) dL_law_854 rfl ?_
  refine ww_iadd hX (pc := 855) dL_law_855 ?_
  refine ww_sld hX (pc := 856) hsc (by omega) (by omega) (by omega) dL_law_856 ?_
  refine ww_aload_nS hX (pc := 857) dL_law_857 rfl ?_
  refine ww_iload_n hX (pc := 858) dL_law_858 rfl ?_
  refine ww_iconst hX (pc := 859) (x := 2) dL_law_859 rfl ?_
  refine ww_iadd hX (pc := 860) dL_law_860 ?_
  refine ww_sld hX (pc := 861) hsc (by omega) (by omega) (by omega) dL_law_861 ?_
  refine vI2 hX (pc := 862) sL_110 (xs_49 C_847.1) (c5_X11_send l0 C_847.1 Q_847 (aScr_r hsc _).1 (aScr_r hsc _).2 (aScr_r hsc _).1 (aScr_r hsc _).2) (by decide) (by omega) (by omega) (Nat.le_of_ble_eq_true rfl) dL_law_862 (fun x_862 I_862 J_862 h_862 => ?_)
  have cp_862 := CF_send hP hC h_847 h_862
  have C_862 := CI_ref C_847 (Ch_kp h_862.1 (by decide))
  have Q_862 := h_862.2.2.1
  have P_862 := cp_862
  refine ww_popI hX (pc := 865) dL_law_865 ?_
  refine ww_goto hX (pc := 866) (tgt := 1359) dL_law_866 (by decide) ?_
  exact kk _ _ _ _ _ _ C_862 Q_862 P_862 (by omega) (by omega)
set_option maxHeartbeats 4000000 in
set_option maxRecDepth 20000 in
theorem lc_23 {l0 : Launch} {X : aX} (hX : aK l0 X cL_law 4 RL ret 400 600000 7302250) {L : Nat} {sc : Nat → Int} (hsc : aScr X L sc) {i : Int} (hi0 : 0 ≤ i) (hi1 : i + 6 ≤ L) (hLL : L ≤ 3072) {I J : aI1} {R : aR1} {S : aS1} {uc us : Nat} (hC : CI I R S) (hQ : RX I) (hP : CPF I R) (huc : uc ≤ 500000) (hus : us ≤ 7000000) (kk : ∀ I' J' R' S' uc' us', CI I' R' S' → RX I' → CPF I' R' → uc' ≤ uc + 6 → us' ≤ us + 428 → WW X 1359 [some (kS 300), some (kR (some 0)), some (kR (some 49)), some (kI i)] [] I' J' R' S' uc' us') : WW X 869 [some (kS 300), some (kR (some 0)), some (kR (some 49)), some (kI i)] [] I J R S uc us := by
  refine ww_aload_n hX (pc := 869) dL_law_869 rfl ?_
  refine vI0 hX (pc := 870) sL_111 (xs_0 hC.1) (c5_X10_dawn l0 hC.1 hC.2.1 ) (by decide) (by omega) (by omega) (Nat.le_of_ble_eq_true rfl) dL_law_870 (fun x_870 I_870 J_870 h_870 => ?_)
  have C_870 := CI_low hC h_870.1 h_870.2.2.1
  have Q_870 := RX_low hQ h_870.1
  refine ww_popI hX (pc := 873) dL_law_873 ?_
  refine ww_aload_n hX (pc := 874) dL_law_874 rfl ?_
  refine vI0 hX (pc := 875) sL_114 (xs_49 C_870.1) (c5_X11_dawn l0 C_870.1 Q_870 ) (by decide) (by omega) (by omega) (Nat.le_of_ble_eq_true rfl) dL_law_875 (fun x_875 I_875 J_875 h_875 => ?_)
  have cp_875 := CF_dawn hP hC h_870 h_875
  have C_875 := CI_ref C_870 (Ch_kp h_875.1 (by decide))
  have Q_875 := h_875.2.2.1
  have P_875 := cp_875
  refine ww_popI hX (pc := 878) dL_law_878 ?_
  refine ww_goto hX (pc := 879) (tgt := 1359) dL_law_879 (by decide) ?_
  exact kk _ _ _ _ _ _ C_875 Q_875 P_875 (by omega) (by omega)
set_option maxHeartbeats 4000000 in
set_option maxRecDepth 20000 in
theorem lc_24 {l0 : Launch} {X : aX} (hX : aK l0 X cL_law 4 RL ret 400 600000 7302250) {L : Nat} {sc : Nat → Int} (hsc : aScr X L sc) {i : Int} (hi0 : 0 ≤ i) (hi1 : i + 6 ≤ L) (hLL : L ≤ 3072) {I J : aI1} {R : aR1} {S : aS1} {uc us : Nat} (hC : CI I R S) (hQ : RX I) (hP : CPF I R) (huc : uc ≤ 500000) (hus : us ≤ 7000000) (kk : ∀ I' J' R' S' uc' us', CI I' R' S' → RX I' → CPF I' R' → uc' ≤ uc + 6 → us' ≤ us + 428 → WW X 1359 [some (kS 300), some (kR (some 0)), some (kR (some 49)), some (kI i)] [] I' J' R' S' uc' us') : WW X 882 [some (kS 300), some (kR (some 0)), some (kR (some 49)), some (kI i)] [] I J R S uc us := by
  refine ww_aload_n hX (pc := 882) dL_law_882 rfl ?_
  refine ww_aload_nS hX (pc := 883) dL_law_883 rfl ?_
  refine ww_iload_n hX (pc := 884) dL_law_884 rfl ?_
  refine ww_iconst hX (pc := 885) (x := 1) dL_law_885 rfl ?_
  refine ww_iadd hX (pc := 886) dL_law_886 ?_
  refine ww_sld hX (pc := 887) hsc (by omega) (by omega) (by omega) dL_law_887 ?_
  refine vI1 hX (pc := 888) sL_115 (xs_0 hC.1) (c5_X10_log l0 hC.1 hC.2.1 (aScr_r hsc _).1 (aScr_r hsc _).2) (by decide) (by omega) (by omega) (Nat.le_of_ble_eq_true rfl) dL_law_888 (fun x_888 I_888 J_888 h_888 => ?_)
  have C_888 := CI_low hC h_888.1 h_888.2.2.1
  have Q_888 := RX_low hQ h_888.1
  refine ww_popI hX (pc := 891) dL_law_891 ?_
  refine ww_aload_n hX (pc := 892) dL_law_892 rfl ?_
  refine ww_aload_nS hX (pc := 893) dL_law_893 rfl ?_
  refine ww_iload_n hX (pc := 894) dL_law_894 rfl ?_
  refine ww_iconst hX (pc := 895) (x := 1) dL_law_895 rfl ?_
  refine ww_iadd hX (pc := 896) dL_law_896 ?_
  refine ww_sld hX (pc := 897) hsc (by omega) (by omega) (by omega) dL_law_897 ?_
  refine vI1 hX (pc := 898) sL_118 (xs_49 C_888.1) (c_X11_log l0 C_888.1 Q_888 (aScr_r hsc _).1 (aScr_r hsc _).2) (by decide) (by omega) (by omega) (Nat.le_of_ble_eq_true rfl) dL_law_898 (fun x_898 I_898 J_898 h_898 => ?_)
  have cp_898 := CF_log hP hC h_888 h_898
  obtain ⟨rfl, rfl, h_898⟩ := h_898
  have P_898 := cp_898
  refine ww_popI hX (pc := 901) dL_law_901 ?_
  refine ww_goto hX (pc := 902) (tgt := 1359) dL_law_902 (by decide) ?_
  exact kk _ _ _ _ _ _ C_888 Q_888 P_898 (by omega) (by omega)
set_option maxHeartbeats 4000000 in
set_option maxRecDepth 20000 in
theorem lc_25 {l0 : Launch} {X : aX} (hX : aK l0 X cL_law 4 RL ret 400 600000 7302250) {L : Nat} {sc : Nat → Int} (hsc : aScr X L sc) {i : Int} (hi0 : 0 ≤ i) (hi1 : i + 6 ≤ L) (hLL : L ≤ 3072) {I J : aI1} {R : aR1} {S : aS1} {uc us : Nat} (hC : CI I R S) (hQ : RX I) (hP : CPF I R) (huc : uc ≤ 500000) (hus : us ≤ 7000000) (kk : ∀ I' J' R' S' uc' us', CI I' R' S' → RX I' → CPF I' R' → uc' ≤ uc + 6 → us' ≤ us + 428 → WW X 1359 [some (kS 300), some (kR (some 0)), some (kR (some 49)), some (kI i)] [] I' J' R' S' uc' us') : WW X 905 [some (kS 300), some (kR (some 0)), some (kR (some 49)), some (kI i)] [] I J R S uc us := by
  refine ww_aload_n hX (pc := 905) dL_law_905 rfl ?_
  refine vI0 hX (pc := 906) sL_119 (xs_0 hC.1) (c5_X10_burnt l0 hC.1 hC.2.1 ) (by decide) (by omega) (by omega) (Nat.le_of_ble_eq_true rfl) dL_law_906 (fun x_906 I_906 J_906 h_906 => ?_)
  have C_906 := CI_low hC h_906.1 h_906.2.2.1
  have Q_906 := RX_low hQ h_906.1
  refine ww_popI hX (pc := 909) dL_law_909 ?_
  refine ww_aload_n hX (pc := 910) dL_law_910 rfl ?_
  refine vI0 hX (pc := 911) sL_122 (xs_49 C_906.1) (c_X11_burnt l0 C_906.1 Q_906 ) (by decide) (by omega) (by omega) (Nat.le_of_ble_eq_true rfl) dL_law_911 (fun x_911 I_911 J_911 h_911 => ?_)
  have cp_911 := CF_burnt hP hC h_906 h_911
  obtain ⟨rfl, rfl, h_911⟩ := h_911
  have P_911 := cp_911
  refine ww_popI hX (pc := 914) dL_law_914 ?_
  refine ww_goto hX (pc := 915) (tgt := 1359) dL_law_915 (by decide) ?_
  exact kk _ _ _ _ _ _ C_906 Q_906 P_911 (by omega) (by omega)
set_option maxHeartbeats 4000000 in
set_option maxRecDepth 20000 in
theorem lc_26 {l0 : Launch} {X : aX} (hX : aK l0 X cL_law 4 RL ret 400 600000 7302250) {L : Nat} {sc : Nat → Int} (hsc : aScr X L sc) {i : Int} (hi0 : 0 ≤ i) (hi1 : i + 6 ≤ L) (hLL : L ≤ 3072) {I J : aI1} {R : aR1} {S : aS1} {uc us : Nat} (hC : CI I R S) (hQ : RX I) (hP : CPF I R) (huc : uc ≤ 500000) (hus : us ≤ 7000000) (kk : ∀ I' J' R' S' uc' us', CI I' R' S' → RX I' → CPF I' R' → uc' ≤ uc + 6 → us' ≤ us + 428 → WW X 1359 [some (kS 300), some (kR (some 0)), some (kR (some 49)), some (kI i)] [] I' J' R' S' uc' us') : WW X 918 [some (kS 300), some (kR (some 0)), some (kR (some 49)), some (kI i)] [] I J R S uc us := by
  refine ww_aload_n hX (pc := 918) dL_law_918 rfl ?_
  refine vI0 hX (pc := 919) sL_123 (xs_0 hC.1) (c5_X10_trail l0 hC.1 hC.2.1 ) (by decide) (by omega) (by omega) (Nat.le_of_ble_eq_true rfl) dL_law_919 (fun x_919 I_919 J_919 h_919 => ?_)
  have C_919 := CI_low hC h_919.1 h_919.2.2.1
  have Q_919 := RX_low hQ h_919.1
  refine ww_popI hX (pc := 922) dL_law_922 ?_
  refine ww_aload_n hX (pc := 923) dL_law_923 rfl ?_
  refine vI0 hX (pc := 924) sL_126 (xs_49 C_919.1) (c5_X11_trail l0 C_919.1 Q_919 ) (by decide) (by omega) (by omega) (Nat.le_of_ble_eq_true rfl) dL_law_924 (fun x_924 I_924 J_924 h_924 => ?_)
  have cp_924 := CF_trail hP hC h_919 h_924
  have C_924 := CI_ref C_919 (Ch_kp h_924.1 (by decide))
  have Q_924 := h_924.2.2.1
  have P_924 := cp_924.1
  refine ww_popI hX (pc := 927) dL_law_927 ?_
  refine ww_goto hX (pc := 928) (tgt := 1359) dL_law_928 (by decide) ?_
  exact kk _ _ _ _ _ _ C_924 Q_924 P_924 (by omega) (by omega)
set_option maxHeartbeats 4000000 in
set_option maxRecDepth 20000 in
theorem lc_27 {l0 : Launch} {X : aX} (hX : aK l0 X cL_law 4 RL ret 400 600000 7302250) {L : Nat} {sc : Nat → Int} (hsc : aScr X L sc) {i : Int} (hi0 : 0 ≤ i) (hi1 : i + 6 ≤ L) (hLL : L ≤ 3072) {I J : aI1} {R : aR1} {S : aS1} {uc us : Nat} (hC : CI I R S) (hQ : RX I) (hP : CPF I R) (huc : uc ≤ 500000) (hus : us ≤ 7000000) (kk : ∀ I' J' R' S' uc' us', CI I' R' S' → RX I' → CPF I' R' → uc' ≤ uc + 6 → us' ≤ us + 428 → WW X 1359 [some (kS 300), some (kR (some 0)), some (kR (some 49)), some (kI i)] [] I' J' R' S' uc' us') : WW X 931 [some (kS 300), some (kR (some 0)), some (kR (some 49)), some (kI i)] [] I J R S uc us := by
  refine ww_aload_n hX (pc := 931) dL_law_931 rfl ?_
  refine ww_aload_nS hX (pc := 932) dL_law_932 rfl ?_
  refine ww_iload_n hX (pc := 933) dL_law_933 rfl ?_
  refine ww_iconst hX (pc := 934) (x := 1) dL_law_934 rfl ?_
  refine ww_iadd hX (pc := 935) dL_law_935 ?_
  refine ww_sld hX (pc := 936) hsc (by omega) (by omega) (by omega) dL_law_936 ?_
  refine vI1 hX (pc := 937) sL_127 (xs_0 hC.1) (c5_X10_judge l0 hC.1 hC.2.1 (aScr_r hsc _).1 (aScr_r hsc _).2) (by decide) (by omega) (by omega) (Nat.le_of_ble_eq_true rfl) dL_law_937 (fun x_937 I_937 J_937 h_937 => ?_)
  have C_937 := CI_low hC h_937.1 h_937.2.2.1
  have Q_937 := RX_low hQ h_937.1
  refine ww_popI hX (pc := 940) dL_law_940 ?_
  refine ww_aload_n hX (pc := 941) dL_law_941 rfl ?_
  refine ww_aload_nS hX (pc := 942) dL_law_942 rfl ?_
  refine ww_iload_n hX (pc := 943) dL_law_943 rfl ?_
  refine ww_iconst hX (pc := 944) (x := 1) dL_law_944 rfl ?_
  refine ww_iadd hX (pc := 945) dL_law_945 ?_
  refine ww_sld hX (pc := 946) hsc (by omega) (by omega) (by omega) dL_law_946 ?_
  refine vI1 hX (pc := 947) sL_130 (xs_49 C_937.1) (c_X11_judge l0 C_937.1 Q_937 (aScr_r hsc _).1 (aScr_r hsc _).2) (by decide) (by omega) (by omega) (Nat.le_of_ble_eq_true rfl) dL_law_947 (fun x_947 I_947 J_947 h_947 => ?_)
  have cp_947 := CF_judge hP hC h_937 h_947
  have C_947 := CI_ref C_937 (Ch_kp h_947.1 (by decide))
  have Q_947 := h_947.2.2.1
  have P_947 := cp_947
  refine ww_popI hX (pc := 950) dL_law_950 ?_
  refine ww_goto hX (pc := 951) (tgt := 1359) dL_law_951 (by decide) ?_
  exact kk _ _ _ _ _ _ C_947 Q_947 P_947 (by omega) (by omega)
set_option maxHeartbeats 4000000 in
set_option maxRecDepth 20000 in
theorem lc_28 {l0 : Launch} {X : aX} (hX : aK l0 X cL_law 4 RL ret 400 600000 7302250) {L : Nat} {sc : Nat → Int} (hsc : aScr X L sc) {i : Int} (hi0 : 0 ≤ i) (hi1 : i + 6 ≤ L) (hLL : L ≤ 3072) {I J : aI1} {R : aR1} {S : aS1} {uc us : Nat} (hC : CI I R S) (hQ : RX I) (hP : CPF I R) (huc : uc ≤ 500000) (hus : us ≤ 7000000) (kk : ∀ I' J' R' S' uc' us', CI I' R' S' → RX I' → CPF I' R' → uc' ≤ uc + 6 → us' ≤ us + 428 → WW X 1359 [some (kS 300), some (kR (some 0)), some (kR (some 49)), some (kI i)] [] I' J' R' S' uc' us') : WW X 954 [some (kS 300), some (kR (some 0)), some (kR (some 49)), some (kI i)] [] I J R S uc us := by
  refine ww_aload_n hX (pc := 954) dL_law_954 rfl ?_
  refine ww_aload_nS hX (pc := 955) dL_law_955 rfl ?_
  refine ww_iload_n hX (pc := 956) dL_law_956 rfl ?_
  refine ww_iconst hX (pc := 957) (x := 1) dL_law_957 rfl ?_
  refine ww_iadd hX (pc := 958) dL_law_958 ?_
  refine ww_sld hX (pc := 959) hsc (by omega) (by omega) (by omega) dL_law_959 ?_
  refine ww_aload_nS hX (pc := 960) dL_law_960 rfl ?_
  refine ww_iload_n hX (pc := 961) dL_law_961 rfl ?_
  refine ww_iconst hX (pc := 962) (x := 2) dL_law_962 rfl ?_
  refine ww_iadd hX (pc := 963) dL_law_963 ?_
  refine ww_sld hX (pc := 964) hsc (by omega) (by omega) (by omega) dL_law_964 ?_
  refine ww_aload_nS hX (pc := 965) dL_law_965 rfl ?_
  refine ww_iload_n hX (pc := 966) dL_law_966 rfl ?_
  refine ww_iconst hX (pc := 967) (x := 3) dL_law_967 rfl ?_
  refine ww_iadd hX (pc := 968) dL_law_968 ?_
  refine ww_sld hX (pc := 969) hsc (by omega) (by omega) (by omega) dL_law_969 ?_
  refine vJ3 hX (pc := 970) sL_131 (xs_0 hC.1) (c5_X10_rows l0 hC.1 hC.2.1 (aScr_r hsc _).1 (aScr_r hsc _).2 (aScr_r hsc _).1 (aScr_r hsc _).2 (aScr_r hsc _).1 (aScr_r hsc _).2) (by decide) (by omega) (by omega) (Nat.le_of_ble_eq_true rfl) dL_law_970 (fun x_970 I_970 J_970 h_970 => ?_)
  have C_970 := CI_low hC h_970.1 h_970.2.2.1
  have Q_970 := RX_low hQ h_970.1
  refine ww_pop2 hX (pc := 973) dL_law_973 ?_
  refine ww_aload_n hX (pc := 974) dL_law_974 rfl ?_
  refine ww_aload_nS hX (pc := 975) dL_law_975 rfl ?_
  refine ww_iload_n hX (pc := 976) dL_law_976 rfl ?_
  refine ww_iconst hX (pc := 977) (x := 1) dL_law_977 rfl ?_
  refine ww_iadd hX (pc := 978) dL_law_978 ?_
  refine ww_sld hX (pc := 979) hsc (by omega) (by omega) (by omega) dL_law_979 ?_
  refine ww_aload_nS hX (pc := 980) dL_law_980 rfl ?_
  refine ww_iload_n hX (pc := 981) dL_law_981 rfl ?_
  refine ww_iconst hX (pc := 982) (x := 2) dL_law_982 rfl ?_
  refine ww_iadd hX (pc := 983) dL_law_983 ?_
  refine ww_sld hX (pc := 984) hsc (by omega) (by omega) (by omega) dL_law_984 ?_
  refine ww_aload_nS hX (pc := 985) dL_law_985 rfl ?_
  refine ww_iload_n hX (pc := 986) dL_law_986 rfl ?_
  refine ww_iconst hX (pc := 987) (x := 3) dL_law_987 rfl ?_
  refine ww_iadd hX (pc := 988) dL_law_988 ?_
  refine ww_sld hX (pc := 989) hsc (by omega) (by omega) (by omega) dL_law_989 ?_
  refine vJ3 hX (pc := 990) sL_135 (xs_49 C_970.1) (c_X11_rows l0 C_970.1 Q_970 (aScr_r hsc _).1 (aScr_r hsc _).2 (aScr_r hsc _).1 (aScr_r hsc _).2 (aScr_r hsc _).1 (aScr_r hsc _).2) (by decide) (by omega) (by omega) (Nat.le_of_ble_eq_true rfl) dL_law_990 (fun x_990 I_990 J_990 h_990 => ?_)
  have cp_990 := CF_rows hP hC h_970 h_990
  have C_990 := CI_ref C_970 (Ch_kp h_990.1 (by decide))
  have Q_990 := h_990.2.2.1
  have P_990 := cp_990
  refine ww_pop2 hX (pc := 993) dL_law_993 ?_
  refine ww_goto hX (pc := 994) (tgt := 1359) dL_law_994 (by decide) ?_
  exact kk _ _ _ _ _ _ C_990 Q_990 P_990 (by omega) (by omega)
set_option maxHeartbeats 4000000 in
set_option maxRecDepth 20000 in
theorem lc_29 {l0 : Launch} {X : aX} (hX : aK l0 X cL_law 4 RL ret 400 600000 7302250) {L : Nat} {sc : Nat → Int} (hsc : aScr X L sc) {i : Int} (hi0 : 0 ≤ i) (hi1 : i + 6 ≤ L) (hLL : L ≤ 3072) {I J : aI1} {R : aR1} {S : aS1} {uc us : Nat} (hC : CI I R S) (hQ : RX I) (hP : CPF I R) (huc : uc ≤ 500000) (hus : us ≤ 7000000) (kk : ∀ I' J' R' S' uc' us', CI I' R' S' → RX I' → CPF I' R' → uc' ≤ uc + 6 → us' ≤ us + 428 → WW X 1359 [some (kS 300), some (kR (some 0)), some (kR (some 49)), some (kI i)] [] I' J' R' S' uc' us') : WW X 997 [some (kS 300), some (kR (some 0)), some (kR (some 49)), some (kI i)] [] I J R S uc us := by
  refine ww_aload_n hX (pc := 997) dL_law_997 rfl ?_
  refine ww_aload_nS hX (pc := 998) dL_law_998 rfl ?_
  refine ww_iload_n hX (pc := 999) dL_law_999 rfl ?_
  refine ww_iconst hX (pc := 1000) (x := 1) dL_law_1000 rfl ?_
  refine ww_iadd hX (pc := 1001) dL_law_1001 ?_
  refine ww_sld hX (pc := 1002) hsc (by omega) (by omega) (by omega) dL_law_1002 ?_
  refine ww_aload_nS hX (pc := 1003) dL_law_1003 rfl ?_
  refine ww_iload_n hX (pc := 1004) dL_law_1004 rfl ?_
  refine ww_iconst hX (pc := 1005) (x := 2) dL_law_1005 rfl ?_
  refine ww_iadd hX (pc := 1006) dL_law_1006 ?_
  refine ww_sld hX (pc := 1007) hsc (by omega) (by omega) (by omega) dL_law_1007 ?_
  refine ww_aload_nS hX (pc := 1008) dL_law_1008 rfl ?_
  refine ww_iload_n hX (pc := 1009) dL_law_1009 rfl ?_
  refine ww_iconst hX (pc := 1010) (x := 3) dL_law_1010 rfl ?_
  refine ww_iadd hX (pc := 1011) dL_law_1011 ?_
  refine ww_sld hX (pc := 1012) hsc (by omega) (by omega) (by omega) dL_law_1012 ?_
  refine ww_aload_nS hX (pc := 1013) dL_law_1013 rfl ?_
  refine ww_iload_n hX (pc := 1014) dL_law_1014 rfl ?_
  refine ww_iconst hX (pc := 1015) (x := 4) dL_law_1015 rfl ?_
  refine ww_iadd hX (pc := 1016) dL_law_1016 ?_
  refine ww_sld hX (pc := 1017) hsc (by omega) (by omega) (by omega) dL_law_1017 ?_
  refine ww_aload_nS hX (pc := 1018) dL_law_1018 rfl ?_
  refine ww_iload_n hX (pc := 1019) dL_law_1019 rfl ?_
  refine ww_iconst hX (pc := 1020) (x := 5) dL_law_1020 rfl ?_
  refine ww_iadd hX (pc := 1021) dL_law_1021 ?_
  refine ww_sld hX (pc := 1022) hsc (by omega) (by omega) (by omega) dL_law_1022 ?_
  refine vJ5 hX (pc := 1023) sL_136 (xs_0 hC.1) (c5_X10_could l0 hC.1 hC.2.1 (aScr_r hsc _).1 (aScr_r hsc _).2 (aScr_r hsc _).1 (aScr_r hsc _).2 (aScr_r hsc _).1 (aScr_r hsc _).2 (aScr_r hsc _).1 (aScr_r hsc _).2 (aScr_r hsc _).1 (aScr_r hsc _).2) (by decide) (by omega) (by omega) (Nat.le_of_ble_eq_true rfl) dL_law_1023 (fun x_1023 I_1023 J_1023 h_1023 => ?_)
  have C_1023 := CI_low hC h_1023.1 h_1023.2.2.1
  have Q_1023 := RX_low hQ h_1023.1
  refine ww_pop2 hX (pc := 1026) dL_law_1026 ?_
  refine ww_aload_n hX (pc := 1027) dL_law_1027 rfl ?_
  refine ww_aload_nS hX (pc := 1028) dL_law_1028 rfl ?_
  refine ww_iload_n hX (pc := 1029) dL_law_1029 rfl ?_
  refine ww_iconst hX (pc := 1030) (x := 1) dL_law_1030 rfl ?_
  refine ww_iadd hX (pc := 1031) dL_law_1031 ?_
  refine ww_sld hX (pc := 1032) hsc (by omega) (by omega) (by omega) dL_law_1032 ?_
  refine ww_aload_nS hX (pc := 1033) dL_law_1033 rfl ?_
  refine ww_iload_n hX (pc := 1034) dL_law_1034 rfl ?_
  refine ww_iconst hX (pc := 1035) (x := 2) dL_law_1035 rfl ?_
  refine ww_iadd hX (pc := 1036) dL_law_1036 ?_
  refine ww_sld hX (pc := 1037) hsc (by omega) (by omega) (by omega) dL_law_1037 ?_
  refine ww_aload_nS hX (pc := 1038) dL_law_1038 rfl ?_
  refine ww_iload_n hX (pc := 1039) dL_law_1039 rfl ?_
  refine ww_iconst hX (pc := 1040) (x := 3) dL_law_1040 rfl ?_
  refine ww_iadd hX (pc := 1041) dL_law_1041 ?_
  refine ww_sld hX (pc := 1042) hsc (by omega) (by omega) (by omega) dL_law_1042 ?_
  refine ww_aload_nS hX (pc := 1043) dL_law_1043 rfl ?_
  refine ww_iload_n hX (pc := 1044) dL_law_1044 rfl ?_
  refine ww_iconst hX (pc := 1045) (x := 4) dL_law_1045 rfl ?_
  refine ww_iadd hX (pc := 1046) dL_law_1046 ?_
  refine ww_sld hX (pc := 1047) hsc (by omega) (by omega) (by omega) dL_law_1047 ?_
  refine ww_aload_nS hX (pc := 1048) dL_law_1048 rfl ?_
  refine ww_iload_n hX (pc := 1049) dL_law_1049 rfl ?_
  refine ww_iconst hX (pc := 1050) (x := 5) dL_law_1050 rfl ?_
  refine ww_iadd hX (pc := 1051) dL_law_1051 ?_
  refine ww_sld hX (pc := 1052) hsc (by omega) (by omega) (by omega) dL_law_1052 ?_
  refine vJ5 hX (pc := 1053) sL_140 (xs_49 C_1023.1) (c_X11_could l0 C_1023.1 Q_1023 (aScr_r hsc _).1 (aScr_r hsc _).2 (aScr_r hsc _).1 (aScr_r hsc _).2 (aScr_r hsc _).1 (aScr_r hsc _).2 (aScr_r hsc _).1 (aScr_r hsc _).2 (aScr_r hsc _).1 (aScr_r hsc _).2) (by decide) (by omega) (by omega) (Nat.le_of_ble_eq_true rfl) dL_law_1053 (fun x_1053 I_1053 J_1053 h_1053 => ?_)
  have cp_1053 := CF_could hP hC h_1023 h_1053
  have C_1053 := CI_ref C_1023 (Ch_kp h_1053.1 (by decide))
  have Q_1053 := h_1053.2.2.1
  have P_1053 := cp_1053
  refine ww_pop2 hX (pc := 1056) dL_law_1056 ?_
  refine ww_goto hX (pc := 1057) (tgt := 1359) dL_law_1057 (by decide) ?_
  exact kk _ _ _ _ _ _ C_1053 Q_1053 P_1053 (by omega) (by omega)
set_option maxHeartbeats 4000000 in
set_option maxRecDepth 20000 in
theorem lc_30 {l0 : Launch} {X : aX} (hX : aK l0 X cL_law 4 RL ret 400 600000 7302250) {L : Nat} {sc : Nat → Int} (hsc : aScr X L sc) {i : Int} (hi0 : 0 ≤ i) (hi1 : i + 6 ≤ L) (hLL : L ≤ 3072) {I J : aI1} {R : aR1} {S : aS1} {uc us : Nat} (hC : CI I R S) (hQ : RX I) (hP : CPF I R) (huc : uc ≤ 500000) (hus : us ≤ 7000000) (kk : ∀ I' J' R' S' uc' us', CI I' R' S' → RX I' → CPF I' R' → uc' ≤ uc + 6 → us' ≤ us + 428 → WW X 1359 [some (kS 300), some (kR (some 0)), some (kR (some 49)), some (kI i)] [] I' J' R' S' uc' us') : WW X 1060 [some (kS 300), some (kR (some 0)), some (kR (some 49)), some (kI i)] [] I J R S uc us := by
  refine ww_aload_n hX (pc := 1060) dL_law_1060 rfl ?_
  refine ww_aload_nS hX (pc := 1061) dL_law_1061 rfl ?_
  refine ww_iload_n hX (pc := 1062) dL_law_1062 rfl ?_
  refine ww_iconst hX (pc := 1063) (x := 1) dL_law_1063 rfl ?_
  refine ww_iadd hX (pc := 1064) dL_law_1064 ?_
  refine ww_sld hX (pc := 1065) hsc (by omega) (by omega) (by omega) dL_law_1065 ?_
  refine ww_aload_nS hX (pc := 1066) dL_law_1066 rfl ?_
  refine ww_iload_n hX (pc := 1067) dL_law_1067 rfl ?_
  refine ww_iconst hX (pc := 1068) (x := 2) dL_law_1068 rfl ?_
  refine ww_iadd hX (pc := 1069) dL_law_1069 ?_
  refine ww_sld hX (pc := 1070) hsc (by omega) (by omega) (by omega) dL_law_1070 ?_
  refine vI2 hX (pc := 1071) sL_141 (xs_0 hC.1) (c5_X10_maybe l0 hC.1 hC.2.1 (aScr_r hsc _).1 (aScr_r hsc _).2 (aScr_r hsc _).1 (aScr_r hsc _).2) (by decide) (by omega) (by omega) (Nat.le_of_ble_eq_true rfl) dL_law_1071 (fun x_1071 I_1071 J_1071 h_1071 => ?_)
  have C_1071 := CI_low hC h_1071.1 h_1071.2.2.1
  have Q_1071 := RX_low hQ h_1071.1
  refine ww_popI hX (pc := 1074) dL_law_1074 ?_
  refine ww_aload_n hX (pc := 1075) dL_law_1075 rfl ?_
  refine ww_aload_nS hX (pc := 1076) dL_law_1076 rfl ?_
  refine ww_iload_n hX (pc := 1077) dL_law_1077 rfl ?_
  refine ww_iconst hX (pc := 1078) (x := 1) dL_law_1078 rfl ?_
  refine ww_iadd hX (pc := 1079) dL_law_1079 ?_
  refine ww_sld hX (pc := 1080) hsc (by omega) (by omega) (by omega) dL_law_1080 ?_
  refine ww_aload_nS hX (pc := 1081) dL_law_1081 rfl ?_
  refine ww_iload_n hX (pc := 1082) dL_law_1082 rfl ?_
  refine ww_iconst hX (pc := 1083) (x := 2) dL_law_1083 rfl ?_
  refine ww_iadd hX (pc := 1084) dL_law_1084 ?_
  refine ww_sld hX (pc := 1085) hsc (by omega) (by omega) (by omega) dL_law_1085 ?_
  refine vI2 hX (pc := 1086) sL_144 (xs_49 C_1071.1) (c_X11_maybe l0 C_1071.1 Q_1071 (aScr_r hsc _).1 (aScr_r hsc _).2 (aScr_r hsc _).1 (aScr_r hsc _).2) (by decide) (by omega) (by omega) (Nat.le_of_ble_eq_true rfl) dL_law_1086 (fun x_1086 I_1086 J_1086 h_1086 => ?_)
  have cp_1086 := CF_maybe hP hC h_1071 h_1086
  have C_1086 := CI_ref C_1071 (Ch_kp h_1086.1 (by decide))
  have Q_1086 := h_1086.2.2.1
  have P_1086 := cp_1086
  refine ww_popI hX (pc := 1089) dL_law_1089 ?_
  refine ww_goto hX (pc := 1090) (tgt := 1359) dL_law_1090 (by decide) ?_
  exact kk _ _ _ _ _ _ C_1086 Q_1086 P_1086 (by omega) (by omega)
set_option maxHeartbeats 4000000 in
set_option maxRecDepth 20000 in
theorem lc_31 {l0 : Launch} {X : aX} (hX : aK l0 X cL_law 4 RL ret 400 600000 7302250) {L : Nat} {sc : Nat → Int} (hsc : aScr X L sc) {i : Int} (hi0 : 0 ≤ i) (hi1 : i + 6 ≤ L) (hLL : L ≤ 3072) {I J : aI1} {R : aR1} {S : aS1} {uc us : Nat} (hC : CI I R S) (hQ : RX I) (hP : CPF I R) (huc : uc ≤ 500000) (hus : us ≤ 7000000) (kk : ∀ I' J' R' S' uc' us', CI I' R' S' → RX I' → CPF I' R' → uc' ≤ uc + 6 → us' ≤ us + 428 → WW X 1359 [some (kS 300), some (kR (some 0)), some (kR (some 49)), some (kI i)] [] I' J' R' S' uc' us') : WW X 1093 [some (kS 300), some (kR (some 0)), some (kR (some 49)), some (kI i)] [] I J R S uc us := by
  refine ww_aload_n hX (pc := 1093) dL_law_1093 rfl ?_
  refine vI0 hX (pc := 1094) sL_145 (xs_0 hC.1) (c5_X10_safe l0 hC.1 hC.2.1 ) (by decide) (by omega) (by omega) (Nat.le_of_ble_eq_true rfl) dL_law_1094 (fun x_1094 I_1094 J_1094 h_1094 => ?_)
  have C_1094 := CI_low hC h_1094.1 h_1094.2.2.1
  have Q_1094 := RX_low hQ h_1094.1
  refine ww_popI hX (pc := 1097) dL_law_1097 ?_
  refine ww_aload_n hX (pc := 1098) dL_law_1098 rfl ?_
  refine vI0 hX (pc := 1099) sL_148 (xs_49 C_1094.1) (c_X11_safe l0 C_1094.1 Q_1094 ) (by decide) (by omega) (by omega) (Nat.le_of_ble_eq_true rfl) dL_law_1099 (fun x_1099 I_1099 J_1099 h_1099 => ?_)
  have cp_1099 := CF_safe hP hC h_1094 h_1099
  have C_1099 := CI_ref C_1094 (Ch_kp h_1099.1 (by decide))
  have Q_1099 := h_1099.2.2.1
  have P_1099 := cp_1099
  refine ww_popI hX (pc := 1102) dL_law_1102 ?_
  refine ww_goto hX (pc := 1103) (tgt := 1359) dL_law_1103 (by decide) ?_
  exact kk _ _ _ _ _ _ C_1099 Q_1099 P_1099 (by omega) (by omega)
set_option maxHeartbeats 4000000 in
set_option maxRecDepth 20000 in
theorem lc_32 {l0 : Launch} {X : aX} (hX : aK l0 X cL_law 4 RL ret 400 600000 7302250) {L : Nat} {sc : Nat → Int} (hsc : aScr X L sc) {i : Int} (hi0 : 0 ≤ i) (hi1 : i + 6 ≤ L) (hLL : L ≤ 3072) {I J : aI1} {R : aR1} {S : aS1} {uc us : Nat} (hC : CI I R S) (hQ : RX I) (hP : CPF I R) (huc : uc ≤ 500000) (hus : us ≤ 7000000) (kk : ∀ I' J' R' S' uc' us', CI I' R' S' → RX I' → CPF I' R' → uc' ≤ uc + 6 → us' ≤ us + 428 → WW X 1359 [some (kS 300), some (kR (some 0)), some (kR (some 49)), some (kI i)] [] I' J' R' S' uc' us') : WW X 1106 [some (kS 300), some (kR (some 0)), some (kR (some 49)), some (kI i)] [] I J R S uc us := by
  refine ww_aload_n hX (pc := 1106) dL_law_1106 rfl ?_
  refine ww_aload_nS hX (pc := 1107) dL_law_1107 rfl ?_
  refine ww_iload_n hX (pc := 1108) dL_law_1108 rfl ?_
  refine ww_iconst hX (pc := 1109) (x := 1) dL_law_1109 rfl ?_
  refine ww_iadd hX (pc := 1110) dL_law_1110 ?_
  refine ww_sld hX (pc := 1111) hsc (by omega) (by omega) (by omega) dL_law_1111 ?_
  refine vI1 hX (pc := 1112) sL_149 (xs_0 hC.1) (c5_X10_spy l0 hC.1 hC.2.1 (aScr_r hsc _).1 (aScr_r hsc _).2) (by decide) (by omega) (by omega) (Nat.le_of_ble_eq_true rfl) dL_law_1112 (fun x_1112 I_1112 J_1112 h_1112 => ?_)
  have C_1112 := CI_low hC h_1112.1 h_1112.2.2.1
  have Q_1112 := RX_low hQ h_1112.1
  refine ww_popI hX (pc := 1115) dL_law_1115 ?_
  refine ww_aload_n hX (pc := 1116) dL_law_1116 rfl ?_
  refine ww_aload_nS hX (pc := 1117) dL_law_1117 rfl ?_
  refine ww_iload_n hX (pc := 1118) dL_law_1118 rfl ?_
  refine ww_iconst hX (pc := 1119) (x := 1) dL_law_1119 rfl ?_
  refine ww_iadd hX (pc := 1120) dL_law_1120 ?_
  refine ww_sld hX (pc := 1121) hsc (by omega) (by omega) (by omega) dL_law_1121 ?_
  refine vI1 hX (pc := 1122) sL_152 (xs_49 C_1112.1) (c_X11_spy l0 C_1112.1 Q_1112 (aScr_r hsc _).1 (aScr_r hsc _).2) (by decide) (by omega) (by omega) (Nat.le_of_ble_eq_true rfl) dL_law_1122 (fun x_1122 I_1122 J_1122 h_1122 => ?_)
  have cp_1122 := CF_spy hP hC h_1112 h_1122
  have C_1122 := CI_ref C_1112 (Ch_kp h_1122.1 (by decide))
  have Q_1122 := h_1122.2.2.1
  have P_1122 := cp_1122
  refine ww_popI hX (pc := 1125) dL_law_1125 ?_
  refine ww_goto hX (pc := 1126) (tgt := 1359) dL_law_1126 (by decide) ?_
  exact kk _ _ _ _ _ _ C_1122 Q_1122 P_1122 (by omega) (by omega)
set_option maxHeartbeats 4000000 in
set_option maxRecDepth 20000 in
theorem lc_33 {l0 : Launch} {X : aX} (hX : aK l0 X cL_law 4 RL ret 400 600000 7302250) {L : Nat} {sc : Nat → Int} (hsc : aScr X L sc) {i : Int} (hi0 : 0 ≤ i) (hi1 : i + 6 ≤ L) (hLL : L ≤ 3072) {I J : aI1} {R : aR1} {S : aS1} {uc us : Nat} (hC : CI I R S) (hQ : RX I) (hP : CPF I R) (huc : uc ≤ 500000) (hus : us ≤ 7000000) (kk : ∀ I' J' R' S' uc' us', CI I' R' S' → RX I' → CPF I' R' → uc' ≤ uc + 6 → us' ≤ us + 428 → WW X 1359 [some (kS 300), some (kR (some 0)), some (kR (some 49)), some (kI i)] [] I' J' R' S' uc' us') : WW X 1129 [some (kS 300), some (kR (some 0)), some (kR (some 49)), some (kI i)] [] I J R S uc us := by
  refine ww_aload_n hX (pc := 1129) dL_law_1129 rfl ?_
  refine ww_aload_nS hX (pc := 1130) dL_law_1130 rfl ?_
  refine ww_iload_n hX (pc := 1131) dL_law_1131 rfl ?_
  refine ww_iconst hX (pc := 1132) (x := 1) dL_law_1132 rfl ?_
  refine ww_iadd hX (pc := 1133) dL_law_1133 ?_
  refine ww_sld hX (pc := 1134) hsc (by omega) (by omega) (by omega) dL_law_1134 ?_
  refine vI1 hX (pc := 1135) sL_153 (xs_0 hC.1) (c5_X10_want l0 hC.1 hC.2.1 (aScr_r hsc _).1 (aScr_r hsc _).2) (by decide) (by omega) (by omega) (Nat.le_of_ble_eq_true rfl) dL_law_1135 (fun x_1135 I_1135 J_1135 h_1135 => ?_)
  have C_1135 := CI_low hC h_1135.1 h_1135.2.2.1
  have Q_1135 := RX_low hQ h_1135.1
  refine ww_aload_n hX (pc := 1138) dL_law_1138 rfl ?_
  refine ww_aload_nS hX (pc := 1139) dL_law_1139 rfl ?_
  refine ww_iload_n hX (pc := 1140) dL_law_1140 rfl ?_
  refine ww_iconst hX (pc := 1141) (x := 1) dL_law_1141 rfl ?_
  refine ww_iadd hX (pc := 1142) dL_law_1142 ?_
  refine ww_sld hX (pc := 1143) hsc (by omega) (by omega) (by omega) dL_law_1143 ?_
  refine vI1 hX (pc := 1144) sL_156 (xs_49 C_1135.1) (c5_X11_want l0 C_1135.1 Q_1135 (aScr_r hsc _).1 (aScr_r hsc _).2) (by decide) (by omega) (by omega) (Nat.le_of_ble_eq_true rfl) dL_law_1144 (fun x_1144 I_1144 J_1144 h_1144 => ?_)
  have cp_1144 := CF_want hP hC h_1135 h_1144
  have C_1144 := CI_ref C_1135 (Ch_kp h_1144.1 (by decide))
  have Q_1144 := h_1144.2.2.1
  have P_1144 := cp_1144.1
  have exy := cp_1144.2
  refine ww_icmp_eq hX (pc := 1147) (tgt := 1359) dL_law_1147 (by decide) (fun h_1147 => ?_) (fun h_1147 => ?_)
  · simp only [w32_mod] at h_1147
    exact kk _ _ _ _ _ _ C_1144 Q_1144 P_1144 (by omega) (by omega)
  · simp only [w32_mod] at h_1147
    refine ww_iconst hX (pc := 1150) (x := 0) dL_law_1150 rfl ?_
    exfalso
    omega
set_option maxHeartbeats 4000000 in
set_option maxRecDepth 20000 in
theorem lc_34 {l0 : Launch} {X : aX} (hX : aK l0 X cL_law 4 RL ret 400 600000 7302250) {L : Nat} {sc : Nat → Int} (hsc : aScr X L sc) {i : Int} (hi0 : 0 ≤ i) (hi1 : i + 6 ≤ L) (hLL : L ≤ 3072) {I J : aI1} {R : aR1} {S : aS1} {uc us : Nat} (hC : CI I R S) (hQ : RX I) (hP : CPF I R) (huc : uc ≤ 500000) (hus : us ≤ 7000000) (kk : ∀ I' J' R' S' uc' us', CI I' R' S' → RX I' → CPF I' R' → uc' ≤ uc + 6 → us' ≤ us + 428 → WW X 1359 [some (kS 300), some (kR (some 0)), some (kR (some 49)), some (kI i)] [] I' J' R' S' uc' us') : WW X 1152 [some (kS 300), some (kR (some 0)), some (kR (some 49)), some (kI i)] [] I J R S uc us := by
  refine ww_aload_n hX (pc := 1152) dL_law_1152 rfl ?_
  refine vI0 hX (pc := 1153) sL_157 (xs_0 hC.1) (c5_X10_unwant l0 hC.1 hC.2.1 ) (by decide) (by omega) (by omega) (Nat.le_of_ble_eq_true rfl) dL_law_1153 (fun x_1153 I_1153 J_1153 h_1153 => ?_)
  have C_1153 := CI_low hC h_1153.1 h_1153.2.2.1
  have Q_1153 := RX_low hQ h_1153.1
  refine ww_popI hX (pc := 1156) dL_law_1156 ?_
  refine ww_aload_n hX (pc := 1157) dL_law_1157 rfl ?_
  refine vI0 hX (pc := 1158) sL_160 (xs_49 C_1153.1) (c5_X11_unwant l0 C_1153.1 Q_1153 ) (by decide) (by omega) (by omega) (Nat.le_of_ble_eq_true rfl) dL_law_1158 (fun x_1158 I_1158 J_1158 h_1158 => ?_)
  have cp_1158 := CF_unwant hP hC h_1153 h_1158
  have C_1158 := CI_ref C_1153 (Ch_kp h_1158.1 (by decide))
  have Q_1158 := h_1158.2.2.1
  have P_1158 := cp_1158.1
  refine ww_popI hX (pc := 1161) dL_law_1161 ?_
  refine ww_goto hX (pc := 1162) (tgt := 1359) dL_law_1162 (by decide) ?_
  exact kk _ _ _ _ _ _ C_1158 Q_1158 P_1158 (by omega) (by omega)
set_option maxHeartbeats 4000000 in
set_option maxRecDepth 20000 in
theorem lc_35 {l0 : Launch} {X : aX} (hX : aK l0 X cL_law 4 RL ret 400 600000 7302250) {L : Nat} {sc : Nat → Int} (hsc : aScr X L sc) {i : Int} (hi0 : 0 ≤ i) (hi1 : i + 6 ≤ L) (hLL : L ≤ 3072) {I J : aI1} {R : aR1} {S : aS1} {uc us : Nat} (hC : CI I R S) (hQ : RX I) (hP : CPF I R) (huc : uc ≤ 500000) (hus : us ≤ 7000000) (kk : ∀ I' J' R' S' uc' us', CI I' R' S' → RX I' → CPF I' R' → uc' ≤ uc + 6 → us' ≤ us + 428 → WW X 1359 [some (kS 300), some (kR (some 0)), some (kR (some 49)), some (kI i)] [] I' J' R' S' uc' us') : WW X 1165 [some (kS 300), some (kR (some 0)), some (kR (some 49)), some (kI i)] [] I J R S uc us := by
  refine ww_aload_n hX (pc := 1165) dL_law_1165 rfl ?_
  refine ww_aload_nS hX (pc := 1166) dL_law_1166 rfl ?_
  refine ww_iload_n hX (pc := 1167) dL_law_1167 rfl ?_
  refine ww_iconst hX (pc := 1168) (x := 1) dL_law_1168 rfl ?_
  refine ww_iadd hX (pc := 1169) dL_law_1169 ?_
  refine ww_sld hX (pc := 1170) hsc (by omega) (by omega) (by omega) dL_law_1170 ?_
  refine vI1 hX (pc := 1171) sL_161 (xs_0 hC.1) (c5_X10_cheap l0 hC.1 hC.2.1 (aScr_r hsc _).1 (aScr_r hsc _).2) (by decide) (by omega) (by omega) (Nat.le_of_ble_eq_true rfl) dL_law_1171 (fun x_1171 I_1171 J_1171 h_1171 => ?_)
  have C_1171 := CI_low hC h_1171.1 h_1171.2.2.1
  have Q_1171 := RX_low hQ h_1171.1
  refine ww_popI hX (pc := 1174) dL_law_1174 ?_
  refine ww_aload_n hX (pc := 1175) dL_law_1175 rfl ?_
  refine ww_aload_nS hX (pc := 1176) dL_law_1176 rfl ?_
  refine ww_iload_n hX (pc := 1177) dL_law_1177 rfl ?_
  refine ww_iconst hX (pc := 1178) (x := 1) dL_law_1178 rfl ?_
  refine ww_iadd hX (pc := 1179) dL_law_1179 ?_
  refine ww_sld hX (pc := 1180) hsc (by omega) (by omega) (by omega) dL_law_1180 ?_
  refine vI1 hX (pc := 1181) sL_164 (xs_49 C_1171.1) (c_X11_cheap l0 C_1171.1 Q_1171 (aScr_r hsc _).1 (aScr_r hsc _).2) (by decide) (by omega) (by omega) (Nat.le_of_ble_eq_true rfl) dL_law_1181 (fun x_1181 I_1181 J_1181 h_1181 => ?_)
  have cp_1181 := CF_cheap hP hC h_1171 h_1181
  have C_1181 := CI_ref C_1171 (Ch_kp h_1181.1 (by decide))
  have Q_1181 := h_1181.2.2.1
  have P_1181 := cp_1181
  refine ww_popI hX (pc := 1184) dL_law_1184 ?_
  refine ww_goto hX (pc := 1185) (tgt := 1359) dL_law_1185 (by decide) ?_
  exact kk _ _ _ _ _ _ C_1181 Q_1181 P_1181 (by omega) (by omega)
set_option maxHeartbeats 4000000 in
set_option maxRecDepth 20000 in
theorem lc_36 {l0 : Launch} {X : aX} (hX : aK l0 X cL_law 4 RL ret 400 600000 7302250) {L : Nat} {sc : Nat → Int} (hsc : aScr X L sc) {i : Int} (hi0 : 0 ≤ i) (hi1 : i + 6 ≤ L) (hLL : L ≤ 3072) {I J : aI1} {R : aR1} {S : aS1} {uc us : Nat} (hC : CI I R S) (hQ : RX I) (hP : CPF I R) (huc : uc ≤ 500000) (hus : us ≤ 7000000) (kk : ∀ I' J' R' S' uc' us', CI I' R' S' → RX I' → CPF I' R' → uc' ≤ uc + 6 → us' ≤ us + 428 → WW X 1359 [some (kS 300), some (kR (some 0)), some (kR (some 49)), some (kI i)] [] I' J' R' S' uc' us') : WW X 1188 [some (kS 300), some (kR (some 0)), some (kR (some 49)), some (kI i)] [] I J R S uc us := by
  refine ww_aload_n hX (pc := 1188) dL_law_1188 rfl ?_
  refine ww_aload_nS hX (pc := 1189) dL_law_1189 rfl ?_
  refine ww_iload_n hX (pc := 1190) dL_law_1190 rfl ?_
  refine ww_iconst hX (pc := 1191) (x := 1) dL_law_1191 rfl ?_
  refine ww_iadd hX (pc := 1192) dL_law_1192 ?_
  refine ww_sld hX (pc := 1193) hsc (by omega) (by omega) (by omega) dL_law_1193 ?_
  refine vI1 hX (pc := 1194) sL_165 (xs_0 hC.1) (c5_X10_plan l0 hC.1 hC.2.1 (aScr_r hsc _).1 (aScr_r hsc _).2) (by decide) (by omega) (by omega) (Nat.le_of_ble_eq_true rfl) dL_law_1194 (fun x_1194 I_1194 J_1194 h_1194 => ?_)
  have C_1194 := CI_low hC h_1194.1 h_1194.2.2.1
  have Q_1194 := RX_low hQ h_1194.1
  refine ww_popI hX (pc := 1197) dL_law_1197 ?_
  refine ww_aload_n hX (pc := 1198) dL_law_1198 rfl ?_
  refine ww_aload_nS hX (pc := 1199) dL_law_1199 rfl ?_
  refine ww_iload_n hX (pc := 1200) dL_law_1200 rfl ?_
  refine ww_iconst hX (pc := 1201) (x := 1) dL_law_1201 rfl ?_
  refine ww_iadd hX (pc := 1202) dL_law_1202 ?_
  refine ww_sld hX (pc := 1203) hsc (by omega) (by omega) (by omega) dL_law_1203 ?_
  refine vI1 hX (pc := 1204) sL_168 (xs_49 C_1194.1) (c_X11_plan l0 C_1194.1 Q_1194 (aScr_r hsc _).1 (aScr_r hsc _).2) (by decide) (by omega) (by omega) (Nat.le_of_ble_eq_true rfl) dL_law_1204 (fun x_1204 I_1204 J_1204 h_1204 => ?_)
  have cp_1204 := CF_plan hP hC h_1194 h_1204
  have C_1204 := CI_ref C_1194 (Ch_kp h_1204.1 (by decide))
  have Q_1204 := h_1204.2.2.1
  have P_1204 := cp_1204
  refine ww_popI hX (pc := 1207) dL_law_1207 ?_
  refine ww_goto hX (pc := 1208) (tgt := 1359) dL_law_1208 (by decide) ?_
  exact kk _ _ _ _ _ _ C_1204 Q_1204 P_1204 (by omega) (by omega)
set_option maxHeartbeats 4000000 in
set_option maxRecDepth 20000 in
theorem lc_37 {l0 : Launch} {X : aX} (hX : aK l0 X cL_law 4 RL ret 400 600000 7302250) {L : Nat} {sc : Nat → Int} (hsc : aScr X L sc) {i : Int} (hi0 : 0 ≤ i) (hi1 : i + 6 ≤ L) (hLL : L ≤ 3072) {I J : aI1} {R : aR1} {S : aS1} {uc us : Nat} (hC : CI I R S) (hQ : RX I) (hP : CPF I R) (huc : uc ≤ 500000) (hus : us ≤ 7000000) (kk : ∀ I' J' R' S' uc' us', CI I' R' S' → RX I' → CPF I' R' → uc' ≤ uc + 6 → us' ≤ us + 428 → WW X 1359 [some (kS 300), some (kR (some 0)), some (kR (some 49)), some (kI i)] [] I' J' R' S' uc' us') : WW X 1211 [some (kS 300), some (kR (some 0)), some (kR (some 49)), some (kI i)] [] I J R S uc us := by
  refine ww_aload_n hX (pc := 1211) dL_law_1211 rfl ?_
  refine ww_aload_nS hX (pc := 1212) dL_law_1212 rfl ?_
  refine ww_iload_n hX (pc := 1213) dL_law_1213 rfl ?_
  refine ww_iconst hX (pc := 1214) (x := 1) dL_law_1214 rfl ?_
  refine ww_iadd hX (pc := 1215) dL_law_1215 ?_
  refine ww_sld hX (pc := 1216) hsc (by omega) (by omega) (by omega) dL_law_1216 ?_
  refine ww_aload_nS hX (pc := 1217) dL_law_1217 rfl ?_
  refine ww_iload_n hX (pc := 1218) dL_law_1218 rfl ?_
  refine ww_iconst hX (pc := 1219) (x := 2) dL_law_1219 rfl ?_
  refine ww_iadd hX (pc := 1220) dL_law_1220 ?_
  refine ww_sld hX (pc := 1221) hsc (by omega) (by omega) (by omega) dL_law_1221 ?_
  refine ww_aload_nS hX (pc := 1222) dL_law_1222 rfl ?_
  refine ww_iload_n hX (pc := 1223) dL_law_1223 rfl ?_
  refine ww_iconst hX (pc := 1224) (x := 3) dL_law_1224 rfl ?_
  refine ww_iadd hX (pc := 1225) dL_law_1225 ?_
  refine ww_sld hX (pc := 1226) hsc (by omega) (by omega) (by omega) dL_law_1226 ?_
  refine vI3 hX (pc := 1227) sL_169 (xs_0 hC.1) (c5_X10_night l0 hC.1 hC.2.1 (aScr_r hsc _).1 (aScr_r hsc _).2 (aScr_r hsc _).1 (aScr_r hsc _).2 (aScr_r hsc _).1 (aScr_r hsc _).2) (by decide) (by omega) (by omega) (Nat.le_of_ble_eq_true rfl) dL_law_1227 (fun x_1227 I_1227 J_1227 h_1227 => ?_)
  have C_1227 := CI_low hC h_1227.1 h_1227.2.2.1
  have Q_1227 := RX_low hQ h_1227.1
  refine ww_popI hX (pc := 1230) dL_law_1230 ?_
  refine ww_aload_n hX (pc := 1231) dL_law_1231 rfl ?_
  refine ww_aload_nS hX (pc := 1232) dL_law_1232 rfl ?_
  refine ww_iload_n hX (pc := 1233) dL_law_1233 rfl ?_
  refine ww_iconst hX (pc := 1234) (x := 1) dL_law_1234 rfl ?_
  refine ww_iadd hX (pc := 1235) dL_law_1235 ?_
  refine ww_sld hX (pc := 1236) hsc (by omega) (by omega) (by omega) dL_law_1236 ?_
  refine ww_aload_nS hX (pc := 1237) dL_law_1237 rfl ?_
  refine ww_iload_n hX (pc := 1238) dL_law_1238 rfl ?_
  refine ww_iconst hX (pc := 1239) (x := 2) dL_law_1239 rfl ?_
  refine ww_iadd hX (pc := 1240) dL_law_1240 ?_
  refine ww_sld hX (pc := 1241) hsc (by omega) (by omega) (by omega) dL_law_1241 ?_
  refine ww_aload_nS hX (pc := 1242) dL_law_1242 rfl ?_
  refine ww_iload_n hX (pc := 1243) dL_law_1243 rfl ?_
  refine ww_iconst hX (pc := 1244) (x := 3) dL_law_1244 rfl ?_
  refine ww_iadd hX (pc := 1245) dL_law_1245 ?_
  refine ww_sld hX (pc := 1246) hsc (by omega) (by omega) (by omega) dL_law_1246 ?_
  refine vI3 hX (pc := 1247) sL_172 (xs_49 C_1227.1) (c_X11_night l0 C_1227.1 Q_1227 (aScr_r hsc _).1 (aScr_r hsc _).2 (aScr_r hsc _).1 (aScr_r hsc _).2 (aScr_r hsc _).1 (aScr_r hsc _).2) (by decide) (by omega) (by omega) (Nat.le_of_ble_eq_true rfl) dL_law_1247 (fun x_1247 I_1247 J_1247 h_1247 => ?_)
  have cp_1247 := CF_night hP hC h_1227 h_1247
  have C_1247 := CI_ref C_1227 (Ch_kp h_1247.1 (by decide))
  have Q_1247 := h_1247.2.2.1
  have P_1247 := cp_1247
  refine ww_popI hX (pc := 1250) dL_law_1250 ?_
  refine ww_goto hX (pc := 1251) (tgt := 1359) dL_law_1251 (by decide) ?_
  exact kk _ _ _ _ _ _ C_1247 Q_1247 P_1247 (by omega) (by omega)
set_option maxHeartbeats 4000000 in
set_option maxRecDepth 20000 in
theorem lc_38 {l0 : Launch} {X : aX} (hX : aK l0 X cL_law 4 RL ret 400 600000 7302250) {L : Nat} {sc : Nat → Int} (hsc : aScr X L sc) {i : Int} (hi0 : 0 ≤ i) (hi1 : i + 6 ≤ L) (hLL : L ≤ 3072) {I J : aI1} {R : aR1} {S : aS1} {uc us : Nat} (hC : CI I R S) (hQ : RX I) (hP : CPF I R) (huc : uc ≤ 500000) (hus : us ≤ 7000000) (kk : ∀ I' J' R' S' uc' us', CI I' R' S' → RX I' → CPF I' R' → uc' ≤ uc + 6 → us' ≤ us + 428 → WW X 1359 [some (kS 300), some (kR (some 0)), some (kR (some 49)), some (kI i)] [] I' J' R' S' uc' us') : WW X 1254 [some (kS 300), some (kR (some 0)), some (kR (some 49)), some (kI i)] [] I J R S uc us := by
  refine ww_aload_n hX (pc := 1254) dL_law_1254 rfl ?_
  refine ww_aload_nS hX (pc := 1255) dL_law_1255 rfl ?_
  refine ww_iload_n hX (pc := 1256) dL_law_1256 rfl ?_
  refine ww_iconst hX (pc := 1257) (x := 1) dL_law_1257 rfl ?_
  refine ww_iadd hX (pc := 1258) dL_law_1258 ?_
  refine ww_sld hX (pc := 1259) hsc (by omega) (by omega) (by omega) dL_law_1259 ?_
  refine vI1 hX (pc := 1260) sL_173 (xs_0 hC.1) (c5_X10_drawn l0 hC.1 hC.2.1 (aScr_r hsc _).1 (aScr_r hsc _).2) (by decide) (by omega) (by omega) (Nat.le_of_ble_eq_true rfl) dL_law_1260 (fun x_1260 I_1260 J_1260 h_1260 => ?_)
  have C_1260 := CI_low hC h_1260.1 h_1260.2.2.1
  have Q_1260 := RX_low hQ h_1260.1
  refine ww_popI hX (pc := 1263) dL_law_1263 ?_
  refine ww_aload_n hX (pc := 1264) dL_law_1264 rfl ?_
  refine ww_aload_nS hX (pc := 1265) dL_law_1265 rfl ?_
  refine ww_iload_n hX (pc := 1266) dL_law_1266 rfl ?_
  refine ww_iconst hX (pc := 1267) (x := 1) dL_law_1267 rfl ?_
  refine ww_iadd hX (pc := 1268) dL_law_1268 ?_
  refine ww_sld hX (pc := 1269) hsc (by omega) (by omega) (by omega) dL_law_1269 ?_
  refine vI1 hX (pc := 1270) sL_176 (xs_49 C_1260.1) (c_X11_drawn l0 C_1260.1 Q_1260 (aScr_r hsc _).1 (aScr_r hsc _).2) (by decide) (by omega) (by omega) (Nat.le_of_ble_eq_true rfl) dL_law_1270 (fun x_1270 I_1270 J_1270 h_1270 => ?_)
  have cp_1270 := CF_drawn hP hC h_1260 h_1270
  obtain ⟨rfl, rfl, h_1270⟩ := h_1270
  have P_1270 := cp_1270
  refine ww_popI hX (pc := 1273) dL_law_1273 ?_
  refine ww_goto hX (pc := 1274) (tgt := 1359) dL_law_1274 (by decide) ?_
  exact kk _ _ _ _ _ _ C_1260 Q_1260 P_1270 (by omega) (by omega)
set_option maxHeartbeats 4000000 in
set_option maxRecDepth 20000 in
theorem lc_39 {l0 : Launch} {X : aX} (hX : aK l0 X cL_law 4 RL ret 400 600000 7302250) {L : Nat} {sc : Nat → Int} (hsc : aScr X L sc) {i : Int} (hi0 : 0 ≤ i) (hi1 : i + 6 ≤ L) (hLL : L ≤ 3072) {I J : aI1} {R : aR1} {S : aS1} {uc us : Nat} (hC : CI I R S) (hQ : RX I) (hP : CPF I R) (huc : uc ≤ 500000) (hus : us ≤ 7000000) (kk : ∀ I' J' R' S' uc' us', CI I' R' S' → RX I' → CPF I' R' → uc' ≤ uc + 6 → us' ≤ us + 428 → WW X 1359 [some (kS 300), some (kR (some 0)), some (kR (some 49)), some (kI i)] [] I' J' R' S' uc' us') : WW X 1277 [some (kS 300), some (kR (some 0)), some (kR (some 49)), some (kI i)] [] I J R S uc us := by
  refine ww_aload_n hX (pc := 1277) dL_law_1277 rfl ?_
  refine ww_aload_nS hX (pc := 1278) dL_law_1278 rfl ?_
  refine ww_iload_n hX (pc := 1279) dL_law_1279 rfl ?_
  refine ww_iconst hX (pc := 1280) (x := 1) dL_law_1280 rfl ?_
  refine ww_iadd hX (pc := 1281) dL_law_1281 ?_
  refine ww_sld hX (pc := 1282) hsc (by omega) (by omega) (by omega) dL_law_1282 ?_
  refine vD1 hX (pc := 1283) sL_177 (xs_0 hC.1) (c5_X10_image l0 hC (aScr_r hsc _).1 (aScr_r hsc _).2 hP.2.2.2.2.2.2.2.1) (by decide) (by omega) (by omega) (Nat.le_of_ble_eq_true rfl) dL_law_1283 (fun x_1283 I_1283 J_1283 R_1283 S_1283 h_1283 => ?_)
  have C_1283 := h_1283.1
  have Q_1283 := RX_mid hQ (fun k h1 h2 => (h_1283.2.1 k h1 h2).1)
  refine ww_popI hX (pc := 1286) dL_law_1286 ?_
  refine ww_aload_n hX (pc := 1287) dL_law_1287 rfl ?_
  refine ww_aload_nS hX (pc := 1288) dL_law_1288 rfl ?_
  refine ww_iload_n hX (pc := 1289) dL_law_1289 rfl ?_
  refine ww_iconst hX (pc := 1290) (x := 1) dL_law_1290 rfl ?_
  refine ww_iadd hX (pc := 1291) dL_law_1291 ?_
  refine ww_sld hX (pc := 1292) hsc (by omega) (by omega) (by omega) dL_law_1292 ?_
  refine vI1 hX (pc := 1293) sL_180 (xs_49 C_1283.1) (c3_X11_image l0 C_1283.1 Q_1283 (aScr_r hsc _).1 (aScr_r hsc _).2) (by decide) (by omega) (by omega) (Nat.le_of_ble_eq_true rfl) dL_law_1293 (fun x_1293 I_1293 J_1293 h_1293 => ?_)
  have cp_1293 := CF_image hP hC h_1283 h_1293
  have C_1293 := CI_ref C_1283 (Ch_kp h_1293.1 (by decide))
  have Q_1293 := h_1293.2.2.1
  have P_1293 := cp_1293.1
  refine ww_popI hX (pc := 1296) dL_law_1296 ?_
  refine ww_goto hX (pc := 1297) (tgt := 1359) dL_law_1297 (by decide) ?_
  exact kk _ _ _ _ _ _ C_1293 Q_1293 P_1293 (by omega) (by omega)
set_option maxHeartbeats 4000000 in
set_option maxRecDepth 20000 in
theorem lc_40 {l0 : Launch} {X : aX} (hX : aK l0 X cL_law 4 RL ret 400 600000 7302250) {L : Nat} {sc : Nat → Int} (hsc : aScr X L sc) {i : Int} (hi0 : 0 ≤ i) (hi1 : i + 6 ≤ L) (hLL : L ≤ 3072) {I J : aI1} {R : aR1} {S : aS1} {uc us : Nat} (hC : CI I R S) (hQ : RX I) (hP : CPF I R) (huc : uc ≤ 500000) (hus : us ≤ 7000000) (kk : ∀ I' J' R' S' uc' us', CI I' R' S' → RX I' → CPF I' R' → uc' ≤ uc + 6 → us' ≤ us + 428 → WW X 1359 [some (kS 300), some (kR (some 0)), some (kR (some 49)), some (kI i)] [] I' J' R' S' uc' us') : WW X 1300 [some (kS 300), some (kR (some 0)), some (kR (some 49)), some (kI i)] [] I J R S uc us := by
  refine ww_aload_n hX (pc := 1300) dL_law_1300 rfl ?_
  refine ww_aload_nS hX (pc := 1301) dL_law_1301 rfl ?_
  refine ww_iload_n hX (pc := 1302) dL_law_1302 rfl ?_
  refine ww_iconst hX (pc := 1303) (x := 1) dL_law_1303 rfl ?_
  refine ww_iadd hX (pc := 1304) dL_law_1304 ?_
  refine ww_sld hX (pc := 1305) hsc (by omega) (by omega) (by omega) dL_law_1305 ?_
  refine vD1 hX (pc := 1306) sL_181 (xs_0 hC.1) (c5_X10_back l0 hC (aScr_r hsc _).1 (aScr_r hsc _).2) (by decide) (by omega) (by omega) (Nat.le_of_ble_eq_true rfl) dL_law_1306 (fun x_1306 I_1306 J_1306 R_1306 S_1306 h_1306 => ?_)
  have C_1306 := h_1306.1
  have Q_1306 := RX_mid hQ (fun k h1 h2 => (h_1306.2.1 k h1 h2).1)
  refine ww_popI hX (pc := 1309) dL_law_1309 ?_
  refine ww_aload_n hX (pc := 1310) dL_law_1310 rfl ?_
  refine ww_aload_nS hX (pc := 1311) dL_law_1311 rfl ?_
  refine ww_iload_n hX (pc := 1312) dL_law_1312 rfl ?_
  refine ww_iconst hX (pc := 1313) (x := 1) dL_law_1313 rfl ?_
  refine ww_iadd hX (pc := 1314) dL_law_1314 ?_
  refine ww_sld hX (pc := 1315) hsc (by omega) (by omega) (by omega) dL_law_1315 ?_
  refine vI1 hX (pc := 1316) sL_184 (xs_49 C_1306.1) (c3_X11_back l0 C_1306.1 Q_1306 (aScr_r hsc _).1 (aScr_r hsc _).2) (by decide) (by omega) (by omega) (Nat.le_of_ble_eq_true rfl) dL_law_1316 (fun x_1316 I_1316 J_1316 h_1316 => ?_)
  have cp_1316 := CF_back hP hC h_1306 h_1316
  have C_1316 := CI_ref C_1306 (Ch_kp h_1316.1 (by decide))
  have Q_1316 := h_1316.2.2.1
  have P_1316 := cp_1316.1
  refine ww_popI hX (pc := 1319) dL_law_1319 ?_
  refine ww_goto hX (pc := 1320) (tgt := 1359) dL_law_1320 (by decide) ?_
  exact kk _ _ _ _ _ _ C_1316 Q_1316 P_1316 (by omega) (by omega)
set_option maxHeartbeats 4000000 in
set_option maxRecDepth 20000 in
theorem lc_41 {l0 : Launch} {X : aX} (hX : aK l0 X cL_law 4 RL ret 400 600000 7302250) {L : Nat} {sc : Nat → Int} (hsc : aScr X L sc) {i : Int} (hi0 : 0 ≤ i) (hi1 : i + 6 ≤ L) (hLL : L ≤ 3072) {I J : aI1} {R : aR1} {S : aS1} {uc us : Nat} (hC : CI I R S) (hQ : RX I) (hP : CPF I R) (huc : uc ≤ 500000) (hus : us ≤ 7000000) (kk : ∀ I' J' R' S' uc' us', CI I' R' S' → RX I' → CPF I' R' → uc' ≤ uc + 6 → us' ≤ us + 428 → WW X 1359 [some (kS 300), some (kR (some 0)), some (kR (some 49)), some (kI i)] [] I' J' R' S' uc' us') : WW X 1323 [some (kS 300), some (kR (some 0)), some (kR (some 49)), some (kI i)] [] I J R S uc us := by
  refine ww_aload_n hX (pc := 1323) dL_law_1323 rfl ?_
  refine ww_aload_nS hX (pc := 1324) dL_law_1324 rfl ?_
  refine ww_iload_n hX (pc := 1325) dL_law_1325 rfl ?_
  refine ww_iconst hX (pc := 1326) (x := 1) dL_law_1326 rfl ?_
  refine ww_iadd hX (pc := 1327) dL_law_1327 ?_
  refine ww_sld hX (pc := 1328) hsc (by omega) (by omega) (by omega) dL_law_1328 ?_
  refine vI1 hX (pc := 1329) sL_185 (xs_0 hC.1) (c5_X10_count l0 hC.1 hC.2.1 (aScr_r hsc _).1 (aScr_r hsc _).2) (by decide) (by omega) (by omega) (Nat.le_of_ble_eq_true rfl) dL_law_1329 (fun x_1329 I_1329 J_1329 h_1329 => ?_)
  have C_1329 := CI_low hC h_1329.1 h_1329.2.2.1
  have Q_1329 := RX_low hQ h_1329.1
  refine ww_popI hX (pc := 1332) dL_law_1332 ?_
  refine ww_aload_n hX (pc := 1333) dL_law_1333 rfl ?_
  refine ww_aload_nS hX (pc := 1334) dL_law_1334 rfl ?_
  refine ww_iload_n hX (pc := 1335) dL_law_1335 rfl ?_
  refine ww_iconst hX (pc := 1336) (x := 1) dL_law_1336 rfl ?_
  refine ww_iadd hX (pc := 1337) dL_law_1337 ?_
  refine ww_sld hX (pc := 1338) hsc (by omega) (by omega) (by omega) dL_law_1338 ?_
  refine vI1 hX (pc := 1339) sL_188 (xs_49 C_1329.1) (c_X11_count l0 C_1329.1 Q_1329 (aScr_r hsc _).1 (aScr_r hsc _).2) (by decide) (by omega) (by omega) (Nat.le_of_ble_eq_true rfl) dL_law_1339 (fun x_1339 I_1339 J_1339 h_1339 => ?_)
  have cp_1339 := CF_count hP hC h_1329 h_1339
  obtain ⟨rfl, rfl, h_1339⟩ := h_1339
  have P_1339 := cp_1339
  refine ww_popI hX (pc := 1342) dL_law_1342 ?_
  refine ww_goto hX (pc := 1343) (tgt := 1359) dL_law_1343 (by decide) ?_
  exact kk _ _ _ _ _ _ C_1329 Q_1329 P_1339 (by omega) (by omega)
set_option maxHeartbeats 4000000 in
set_option maxRecDepth 20000 in
theorem lc_42 {l0 : Launch} {X : aX} (hX : aK l0 X cL_law 4 RL ret 400 600000 7302250) {L : Nat} {sc : Nat → Int} (hsc : aScr X L sc) {i : Int} (hi0 : 0 ≤ i) (hi1 : i + 6 ≤ L) (hLL : L ≤ 3072) {I J : aI1} {R : aR1} {S : aS1} {uc us : Nat} (hC : CI I R S) (hQ : RX I) (hP : CPF I R) (huc : uc ≤ 500000) (hus : us ≤ 7000000) (kk : ∀ I' J' R' S' uc' us', CI I' R' S' → RX I' → CPF I' R' → uc' ≤ uc + 6 → us' ≤ us + 428 → WW X 1359 [some (kS 300), some (kR (some 0)), some (kR (some 49)), some (kI i)] [] I' J' R' S' uc' us') : WW X 1346 [some (kS 300), some (kR (some 0)), some (kR (some 49)), some (kI i)] [] I J R S uc us := by
  refine ww_aload_n hX (pc := 1346) dL_law_1346 rfl ?_
  refine vI0 hX (pc := 1347) sL_189 (xs_0 hC.1) (c5_X10_status l0 hC.1 hC.2.1 ) (by decide) (by omega) (by omega) (Nat.le_of_ble_eq_true rfl) dL_law_1347 (fun x_1347 I_1347 J_1347 h_1347 => ?_)
  have C_1347 := CI_low hC h_1347.1 h_1347.2.2.1
  have Q_1347 := RX_low hQ h_1347.1
  refine ww_popI hX (pc := 1350) dL_law_1350 ?_
  refine ww_aload_n hX (pc := 1351) dL_law_1351 rfl ?_
  refine vI0 hX (pc := 1352) sL_192 (xs_49 C_1347.1) (c_X11_status l0 C_1347.1 Q_1347 ) (by decide) (by omega) (by omega) (Nat.le_of_ble_eq_true rfl) dL_law_1352 (fun x_1352 I_1352 J_1352 h_1352 => ?_)
  have cp_1352 := CF_status hP hC h_1347 h_1352
  obtain ⟨rfl, rfl, h_1352⟩ := h_1352
  have P_1352 := cp_1352
  refine ww_popI hX (pc := 1355) dL_law_1355 ?_
  refine ww_goto hX (pc := 1356) (tgt := 1359) dL_law_1356 (by decide) ?_
  exact kk _ _ _ _ _ _ C_1347 Q_1347 P_1352 (by omega) (by omega)
