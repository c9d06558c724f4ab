/-! ===== cases of the law, by program (mklaw.py) ===== -/
def tbLc14 (b L : Nat) (xs : Nat → Int32) : List (Nat × aO) := [(836, oAL 1 837),
  (837, oAL 0 838),
  (838, oIL 4 840),
  (840, oC (1) 841),
  (841, oIadd 842),
  (842, oSld b L xs 843),
  (843, oAL 3 844),
  (844, oWi (tW1 tX3_paintOf (code1 "java/lang/IndexOutOfBoundsException") svI) 3 rmL_paintOf.cells rmL_paintOf.slots room_1.cells room_1.slots 847),
  (847, oIS 5 849),
  (849, oAL 2 850),
  (850, oAL 0 851),
  (851, oIL 4 853),
  (853, oC (1) 854),
  (854, oIadd 855),
  (855, oSld b L xs 856),
  (856, oGi 9 tX4_paintOf 2 3 rmX4_paintOf.cells rmX4_paintOf.slots room_1.cells room_1.slots 859),
  (859, oIS 6 861),
  (861, oAL 2 862),
  (862, oGi 9 tX4_thrown 1 3 rmX4_thrown.cells rmX4_thrown.slots room_1.cells room_1.slots 865),
  (865, oIL 5 867),
  (867, oIc_eq 872 870),
  (870, oC (0) 871),
  (872, oIL 5 874),
  (874, oIf_ne 889 877),
  (877, oAL 3 878),
  (878, oC (0) 879),
  (879, oJal 880),
  (880, oIL 6 882),
  (882, oI2l 883),
  (883, oLcmp 884),
  (884, oIf_eq 889 887),
  (887, oC (0) 888),
  (889, oGo 1708)]
set_option maxRecDepth 20000 in
theorem okLc14 {Γ : aΓ} {b L : Nat} {xs : Nat → Int32} (C : FOK Γ code wsL_law RL 9 room_1) (CX : FOX Γ) (CN : FOW Γ) (hS : LScr b L xs Γ) : AllS Γ (tbLc14 b L xs) := by
  unfold tbLc14
  refine al_c (pc := 836) (snd_aload_n C dL_law_836 rfl) ?_
  refine al_c (pc := 837) (snd_aload_n C dL_law_837 rfl) ?_
  refine al_c (pc := 838) (snd_iload C dL_law_838) ?_
  refine al_c (pc := 840) (snd_iconst C dL_law_840 (by decide)) ?_
  refine al_c (pc := 841) (snd_iadd C dL_law_841) ?_
  refine al_c (pc := 842) (snd_Sld C hS dL_law_842) ?_
  refine al_c (pc := 843) (snd_aload_n C dL_law_843 rfl) ?_
  refine al_c (pc := 844) (snd_Wi C CX CN (site_SW C dL_law_844 gL_law_L_paintOf rfl rfl rfl ⟨by decide +kernel, by decide +kernel, by decide +kernel⟩ ⟨by decide, by decide⟩) mL_paintOf) ?_
  refine al_c (pc := 847) (snd_istore C dL_law_847 (by decide)) ?_
  refine al_c (pc := 849) (snd_aload_n C dL_law_849 rfl) ?_
  refine al_c (pc := 850) (snd_aload_n C dL_law_850 rfl) ?_
  refine al_c (pc := 851) (snd_iload C dL_law_851) ?_
  refine al_c (pc := 853) (snd_iconst C dL_law_853 (by decide)) ?_
  refine al_c (pc := 854) (snd_iadd C dL_law_854) ?_
  refine al_c (pc := 855) (snd_Sld C hS dL_law_855) ?_
  refine al_c (pc := 856) (snd_Gi 9 C (site_V C rfl dL_law_856 gL_law_X4_paintOf rfl rfl rfl ⟨rfl, by decide +kernel, by decide +kernel, by decide +kernel⟩ ⟨by decide, by decide⟩) mX4_paintOf) ?_
  refine al_c (pc := 859) (snd_istore C dL_law_859 (by decide)) ?_
  refine al_c (pc := 861) (snd_aload_n C dL_law_861 rfl) ?_
  refine al_c (pc := 862) (snd_Gi 9 C (site_V C rfl dL_law_862 gL_law_X4_thrown rfl rfl rfl ⟨rfl, by decide +kernel, by decide +kernel, by decide +kernel⟩ ⟨by decide, by decide⟩) mX4_thrown) ?_
  refine al_c (pc := 865) (snd_iload C dL_law_865) ?_
  refine al_c (pc := 867) (snd_icmp_eq C dL_law_867 (by decide)) ?_
  refine al_c (pc := 870) (snd_iconst C dL_law_870 (by decide)) ?_
  refine al_c (pc := 872) (snd_iload C dL_law_872) ?_
  refine al_c (pc := 874) (snd_if_ne C dL_law_874 (by decide)) ?_
  refine al_c (pc := 877) (snd_aload_n C dL_law_877 rfl) ?_
  refine al_c (pc := 878) (snd_iconst C dL_law_878 (by decide)) ?_
  refine al_c (pc := 879) (snd_Jal C dL_law_879) ?_
  refine al_c (pc := 880) (snd_iload C dL_law_880) ?_
  refine al_c (pc := 882) (snd_i2l C dL_law_882) ?_
  refine al_c (pc := 883) (snd_lcmp C dL_law_883) ?_
  refine al_c (pc := 884) (snd_if_eq C dL_law_884 (by decide)) ?_
  refine al_c (pc := 887) (snd_iconst C dL_law_887 (by decide)) ?_
  refine al_c (pc := 889) (snd_goto C dL_law_889 (by decide)) ?_
  exact al_0
set_option maxHeartbeats 4000000 in
set_option maxRecDepth 100000 in
theorem csL14 {Γ : aΓ} {b L : Nat} {xs : Nat → Int32} (C : FOK Γ code wsL_law RL 9 room_1) (CX : FOX Γ) (CN : FOW Γ) (hS : LScr b L xs Γ) {ad : Nat → Nat} {i : Nat} {D9 M : List aE} {o : Nat → Int64} (had : ad 1000 = b) (hL : L ≤ 2048) (hi : i + 4 ≤ L) (hJ : JJ D9 M)
    (H : ∀ C2 M2 o2, JJ C2 M2 → FG Γ 1708 ad (104 + i) (17020 + 5 * i) [(4, .int (nI i)), (3, .ref 21), (2, .ref 9), (1, .ref 0), (0, .ref 1000)] [] (LW C2 M2 o2)) : FG Γ 836 ad (100 + i) (17000 + 5 * i) [(4, .int (nI i)), (3, .ref 21), (2, .ref 9), (1, .ref 0), (0, .ref 1000)] [] (LW D9 M o) := by
  obtain ⟨l9, fc, hC0⟩ := JJ_C hJ
  obtain ⟨l12, fm, hM0⟩ := JJ_M hJ
  have OK := okLc14 C CX CN hS
  refine go OK [1708] 90 ?_
  refine ⟨rfl, had, i + 1, nI_p1 i, by omega, hL, ?_⟩
  refine ⟨Pw tX4_paintOf svI [.int (xs (i + 1))] M, rfl, (show 100 + i + 1 ≤ 601024 by omega), (show 17000 + 5 * i + 6 ≤ 7293034 by omega), ⟨_, _, rfl, wr_ag (ag_paintOf (xs (i + 1))) code1_ne hJ⟩, fun v X2 hP => ?_⟩
  obtain ⟨C2, o2, rfl, l2, hP⟩ := hP
  refine ⟨rfl, had, i + 1, nI_p1 i, by omega, hL, ?_⟩
  rcases hP with ⟨rfl, r, ho, h4⟩ | ⟨hv, h4⟩
  · refine ⟨C2, M, [.inr (.inr (1, o2))], [.ref 0, .int (xs (i + 1))], _, 0, _, fm, rfl, (show 100 + i + 1 + 0 ≤ 601024 by omega), (show 17000 + 5 * i + 6 + 0 ≤ 7293034 by omega), rfl, hM0, l2, rfl, rfl, h4, fun r3 M2 h5 => ?_⟩
    obtain ⟨hr3, ht, hJ2⟩ := h5
    obtain ⟨l12b, fm2, hM2⟩ := JJ_M hJ2
    refine ⟨l12b.trans l12.symm, ?_⟩
    refine ⟨C2, M2, [.inr (.inr (1, o2))], [.ref 0], _, 0, [], fm2, rfl, (show 100 + i + 1 + 0 + 0 ≤ 601024 by omega), (show 17000 + 5 * i + 6 + 0 + 0 ≤ 7293034 by omega), rfl, hM2, l2, rfl, rfl, thr_T hJ2 ht, fun r4 M3 h6 => ?_⟩
    obtain ⟨hr4, hM3⟩ := h6
    subst hM3
    refine ⟨rfl, ?_⟩
    refine And.intro (fun _ => ?_) (fun q => absurd hr4 q)
    refine And.intro (fun q => absurd rfl q) (fun _ => ?_)
    refine ⟨_, o2, rfl, lw21 l2 l12b, rfl, ?_⟩
    refine And.intro (fun _ => ?_) (fun q => absurd (by rw [ho, hr3]; exact cmp_self _) q)
    exact FG_wid (show 100 + i + 1 + 0 + 0 ≤ 104 + i by omega) (show 17000 + 5 * i + 6 + 0 + 0 ≤ 17020 + 5 * i by omega) (FG_sub [2, 3, 4, 5, 6] rfl (H _ _ _ hJ2))
  · refine ⟨C2, M, [.inr (.inr (1, o2))], [.ref 0, .int (xs (i + 1))], _, 0, _, fm, rfl, (show 100 + i + 1 + 0 ≤ 601024 by omega), (show 17000 + 5 * i + 6 + 0 ≤ 7293034 by omega), rfl, hM0, l2, rfl, rfl, h4, fun r3 M2 h5 => ?_⟩
    obtain ⟨ht, hJ2⟩ := h5
    obtain ⟨l12b, fm2, hM2⟩ := JJ_M hJ2
    refine ⟨l12b.trans l12.symm, ?_⟩
    refine ⟨C2, M2, [.inr (.inr (1, o2))], [.ref 0], _, 0, [], fm2, rfl, (show 100 + i + 1 + 0 + 0 ≤ 601024 by omega), (show 17000 + 5 * i + 6 + 0 + 0 ≤ 7293034 by omega), rfl, hM2, l2, rfl, rfl, thr_T hJ2 ht, fun r4 M3 h6 => ?_⟩
    obtain ⟨hr4, hM3⟩ := h6
    subst hM3
    refine ⟨rfl, ?_⟩
    refine And.intro (fun _ => ?_) (fun q => absurd hr4 q)
    refine And.intro (fun q => ?_) (fun q => absurd q hv)
    exact FG_wid (show 100 + i + 1 + 0 + 0 ≤ 104 + i by omega) (show 17000 + 5 * i + 6 + 0 + 0 ≤ 17020 + 5 * i by omega) (FG_sub [2, 3, 4, 5, 6] rfl (H _ _ _ hJ2))
def tbLc15 (b L : Nat) (xs : Nat → Int32) : List (Nat × aO) := [(892, oAL 1 893),
  (893, oAL 0 894),
  (894, oIL 4 896),
  (896, oC (1) 897),
  (897, oIadd 898),
  (898, oSld b L xs 899),
  (899, oAL 0 900),
  (900, oIL 4 902),
  (902, oC (2) 903),
  (903, oIadd 904),
  (904, oSld b L xs 905),
  (905, oAL 3 906),
  (906, oWi (tW2 tX3_isWall (code1 "java/lang/IndexOutOfBoundsException") svZ) 4 rmL_isWall.cells rmL_isWall.slots room_1.cells room_1.slots 909),
  (909, oIS 5 911),
  (911, oAL 2 912),
  (912, oAL 0 913),
  (913, oIL 4 915),
  (915, oC (1) 916),
  (916, oIadd 917),
  (917, oSld b L xs 918),
  (918, oAL 0 919),
  (919, oIL 4 921),
  (921, oC (2) 922),
  (922, oIadd 923),
  (923, oSld b L xs 924),
  (924, oGi 9 tX4_isWall 3 3 rmX4_isWall.cells rmX4_isWall.slots room_1.cells room_1.slots 927),
  (927, oIS 6 929),
  (929, oAL 2 930),
  (930, oGi 9 tX4_thrown 1 3 rmX4_thrown.cells rmX4_thrown.slots room_1.cells room_1.slots 933),
  (933, oIL 5 935),
  (935, oIc_eq 940 938),
  (938, oC (0) 939),
  (940, oIL 5 942),
  (942, oIf_ne 964 945),
  (945, oAL 3 946),
  (946, oC (0) 947),
  (947, oJal 948),
  (948, oIL 6 950),
  (950, oIf_eq 957 953),
  (953, oCL 1 954),
  (954, oGo 958),
  (957, oCL 0 958),
  (958, oLcmp 959),
  (959, oIf_eq 964 962),
  (962, oC (0) 963),
  (964, oGo 1708)]
set_option maxRecDepth 20000 in
theorem okLc15 {Γ : aΓ} {b L : Nat} {xs : Nat → Int32} (C : FOK Γ code wsL_law RL 9 room_1) (CX : FOX Γ) (CN : FOW Γ) (hS : LScr b L xs Γ) : AllS Γ (tbLc15 b L xs) := by
  unfold tbLc15
  refine al_c (pc := 892) (snd_aload_n C dL_law_892 rfl) ?_
  refine al_c (pc := 893) (snd_aload_n C dL_law_893 rfl) ?_
  refine al_c (pc := 894) (snd_iload C dL_law_894) ?_
  refine al_c (pc := 896) (snd_iconst C dL_law_896 (by decide)) ?_
  refine al_c (pc := 897) (snd_iadd C dL_law_897) ?_
  refine al_c (pc := 898) (snd_Sld C hS dL_law_898) ?_
  refine al_c (pc := 899) (snd_aload_n C dL_law_899 rfl) ?_
  refine al_c (pc := 900) (snd_iload C dL_law_900) ?_
  refine al_c (pc := 902) (snd_iconst C dL_law_902 (by decide)) ?_
  refine al_c (pc := 903) (snd_iadd C dL_law_903) ?_
  refine al_c (pc := 904) (snd_Sld C hS dL_law_904) ?_
  refine al_c (pc := 905) (snd_aload_n C dL_law_905 rfl) ?_
  refine al_c (pc := 906) (snd_Wi C CX CN (site_SW C dL_law_906 gL_law_L_isWall rfl rfl rfl ⟨by decide +kernel, by decide +kernel, by decide +kernel⟩ ⟨by decide, by decide⟩) mL_isWall) ?_
  refine al_c (pc := 909) (snd_istore C dL_law_909 (by decide)) ?_
  refine al_c (pc := 911) (snd_aload_n C dL_law_911 rfl) ?_
  refine al_c (pc := 912) (snd_aload_n C dL_law_912 rfl) ?_
  refine al_c (pc := 913) (snd_iload C dL_law_913) ?_
  refine al_c (pc := 915) (snd_iconst C dL_law_915 (by decide)) ?_
  refine al_c (pc := 916) (snd_iadd C dL_law_916) ?_
  refine al_c (pc := 917) (snd_Sld C hS dL_law_917) ?_
  refine al_c (pc := 918) (snd_aload_n C dL_law_918 rfl) ?_
  refine al_c (pc := 919) (snd_iload C dL_law_919) ?_
  refine al_c (pc := 921) (snd_iconst C dL_law_921 (by decide)) ?_
  refine al_c (pc := 922) (snd_iadd C dL_law_922) ?_
  refine al_c (pc := 923) (snd_Sld C hS dL_law_923) ?_
  refine al_c (pc := 924) (snd_Gi 9 C (site_V C rfl dL_law_924 gL_law_X4_isWall rfl rfl rfl ⟨rfl, by decide +kernel, by decide +kernel, by decide +kernel⟩ ⟨by decide, by decide⟩) mX4_isWall) ?_
  refine al_c (pc := 927) (snd_istore C dL_law_927 (by decide)) ?_
  refine al_c (pc := 929) (snd_aload_n C dL_law_929 rfl) ?_
  refine al_c (pc := 930) (snd_Gi 9 C (site_V C rfl dL_law_930 gL_law_X4_thrown rfl rfl rfl ⟨rfl, by decide +kernel, by decide +kernel, by decide +kernel⟩ ⟨by decide, by decide⟩) mX4_thrown) ?_
  refine al_c (pc := 933) (snd_iload C dL_law_933) ?_
  refine al_c (pc := 935) (snd_icmp_eq C dL_law_935 (by decide)) ?_
  refine al_c (pc := 938) (snd_iconst C dL_law_938 (by decide)) ?_
  refine al_c (pc := 940) (snd_iload C dL_law_940) ?_
  refine al_c (pc := 942) (snd_if_ne C dL_law_942 (by decide)) ?_
  refine al_c (pc := 945) (snd_aload_n C dL_law_945 rfl) ?_
  refine al_c (pc := 946) (snd_iconst C dL_law_946 (by decide)) ?_
  refine al_c (pc := 947) (snd_Jal C dL_law_947) ?_
  refine al_c (pc := 948) (snd_iload C dL_law_948) ?_
  refine al_c (pc := 950) (snd_if_eq C dL_law_950 (by decide)) ?_
  refine al_c (pc := 953) (snd_lconst C dL_law_953 (by decide)) ?_
  refine al_c (pc := 954) (snd_goto C dL_law_954 (by decide)) ?_
  refine al_c (pc := 957) (snd_lconst C dL_law_957 (by decide)) ?_
  refine al_c (pc := 958) (snd_lcmp C dL_law_958) ?_
  refine al_c (pc := 959) (snd_if_eq C dL_law_959 (by decide)) ?_
  refine al_c (pc := 962) (snd_iconst C dL_law_962 (by decide)) ?_
  refine al_c (pc := 964) (snd_goto C dL_law_964 (by decide)) ?_
  exact al_0
set_option maxHeartbeats 4000000 in
set_option maxRecDepth 100000 in
theorem csL15 {Γ : aΓ} {b L : Nat} {xs : Nat → Int32} (C : FOK Γ code wsL_law RL 9 room_1) (CX : FOX Γ) (CN : FOW Γ) (hS : LScr b L xs Γ) {ad : Nat → Nat} {i : Nat} {D9 M : List aE} {o : Nat → Int64} (had : ad 1000 = b) (hL : L ≤ 2048) (hi : i + 4 ≤ L) (hJ : JJ D9 M)
    (H : ∀ C2 M2 o2, JJ C2 M2 → FG Γ 1708 ad (104 + i) (17020 + 5 * i) [(4, .int (nI i)), (3, .ref 21), (2, .ref 9), (1, .ref 0), (0, .ref 1000)] [] (LW C2 M2 o2)) : FG Γ 892 ad (100 + i) (17000 + 5 * i) [(4, .int (nI i)), (3, .ref 21), (2, .ref 9), (1, .ref 0), (0, .ref 1000)] [] (LW D9 M o) := by
  obtain ⟨l9, fc, hC0⟩ := JJ_C hJ
  obtain ⟨l12, fm, hM0⟩ := JJ_M hJ
  have OK := okLc15 C CX CN hS
  refine go OK [1708] 90 ?_
  refine ⟨rfl, had, i + 1, nI_p1 i, by omega, hL, ?_⟩
  refine ⟨rfl, had, i + 2, nI_p2 i, by omega, hL, ?_⟩
  refine ⟨Pw tX4_isWall svZ [.int (xs (i + 1)), .int (xs (i + 2))] M, rfl, (show 100 + i + 1 ≤ 601024 by omega), (show 17000 + 5 * i + 6 ≤ 7293034 by omega), ⟨_, _, _, rfl, wr_ag (ag_isWall (xs (i + 1)) (xs (i + 2))) code1_ne hJ⟩, fun v X2 hP => ?_⟩
  obtain ⟨C2, o2, rfl, l2, hP⟩ := hP
  refine ⟨rfl, had, i + 1, nI_p1 i, by omega, hL, ?_⟩
  refine ⟨rfl, had, i + 2, nI_p2 i, by omega, hL, ?_⟩
  rcases hP with ⟨rfl, r, ho, h4⟩ | ⟨hv, h4⟩
  · refine ⟨C2, M, [.inr (.inr (1, o2))], [.ref 0, .int (xs (i + 1)), .int (xs (i + 2))], _, 0, _, fm, rfl, (show 100 + i + 1 + 0 ≤ 601024 by omega), (show 17000 + 5 * i + 6 + 0 ≤ 7293034 by omega), rfl, hM0, l2, rfl, rfl, h4, fun r3 M2 h5 => ?_⟩
    obtain ⟨hr3, ht, hJ2⟩ := h5
    obtain ⟨l12b, fm2, hM2⟩ := JJ_M hJ2
    refine ⟨l12b.trans l12.symm, ?_⟩
    refine ⟨C2, M2, [.inr (.inr (1, o2))], [.ref 0], _, 0, [], fm2, rfl, (show 100 + i + 1 + 0 + 0 ≤ 601024 by omega), (show 17000 + 5 * i + 6 + 0 + 0 ≤ 7293034 by omega), rfl, hM2, l2, rfl, rfl, thr_T hJ2 ht, fun r4 M3 h6 => ?_⟩
    obtain ⟨hr4, hM3⟩ := h6
    subst hM3
    refine ⟨rfl, ?_⟩
    refine And.intro (fun _ => ?_) (fun q => absurd hr4 q)
    refine And.intro (fun q => absurd rfl q) (fun _ => ?_)
    refine ⟨_, o2, rfl, lw21 l2 l12b, rfl, ?_⟩
    refine And.intro (fun z => ?_) (fun z => ?_)
    · refine And.intro (fun _ => ?_) (fun q => absurd (by rw [ho, show svZ r = 0 from if_pos (hr3.symm.trans z)]; exact cmp_self _) q)
      exact FG_wid (show 100 + i + 1 + 0 + 0 ≤ 104 + i by omega) (show 17000 + 5 * i + 6 + 0 + 0 ≤ 17020 + 5 * i by omega) (FG_sub [2, 3, 4, 5, 6] rfl (H _ _ _ hJ2))
    · refine And.intro (fun _ => ?_) (fun q => absurd (by rw [ho, show svZ r = 1 from if_neg (fun y => z (hr3.trans y))]; exact cmp_self _) q)
      exact FG_wid (show 100 + i + 1 + 0 + 0 ≤ 104 + i by omega) (show 17000 + 5 * i + 6 + 0 + 0 ≤ 17020 + 5 * i by omega) (FG_sub [2, 3, 4, 5, 6] rfl (H _ _ _ hJ2))
  · refine ⟨C2, M, [.inr (.inr (1, o2))], [.ref 0, .int (xs (i + 1)), .int (xs (i + 2))], _, 0, _, fm, rfl, (show 100 + i + 1 + 0 ≤ 601024 by omega), (show 17000 + 5 * i + 6 + 0 ≤ 7293034 by omega), rfl, hM0, l2, rfl, rfl, h4, fun r3 M2 h5 => ?_⟩
    obtain ⟨ht, hJ2⟩ := h5
    obtain ⟨l12b, fm2, hM2⟩ := JJ_M hJ2
    refine ⟨l12b.trans l12.symm, ?_⟩
    refine ⟨C2, M2, [.inr (.inr (1, o2))], [.ref 0], _, 0, [], fm2, rfl, (show 100 + i + 1 + 0 + 0 ≤ 601024 by omega), (show 17000 + 5 * i + 6 + 0 + 0 ≤ 7293034 by omega), rfl, hM2, l2, rfl, rfl, thr_T hJ2 ht, fun r4 M3 h6 => ?_⟩
    obtain ⟨hr4, hM3⟩ := h6
    subst hM3
    refine ⟨rfl, ?_⟩
    refine And.intro (fun _ => ?_) (fun q => absurd hr4 q)
    refine And.intro (fun q => ?_) (fun q => absurd q hv)
    exact FG_wid (show 100 + i + 1 + 0 + 0 ≤ 104 + i by omega) (show 17000 + 5 * i + 6 + 0 + 0 ≤ 17020 + 5 * i by omega) (FG_sub [2, 3, 4, 5, 6] rfl (H _ _ _ hJ2))
def tbLc16 (b L : Nat) (xs : Nat → Int32) : List (Nat × aO) := [(967, oAL 1 968),
  (968, oAL 0 969),
  (969, oIL 4 971),
  (971, oC (1) 972),
  (972, oIadd 973),
  (973, oSld b L xs 974),
  (974, oAL 0 975),
  (975, oIL 4 977),
  (977, oC (2) 978),
  (978, oIadd 979),
  (979, oSld b L xs 980),
  (980, oAL 3 981),
  (981, oWi (tW2 tX3_printAt (code1 "java/lang/IndexOutOfBoundsException") svI) 4 rmL_printAt.cells rmL_printAt.slots room_1.cells room_1.slots 984),
  (984, oIS 5 986),
  (986, oAL 2 987),
  (987, oAL 0 988),
  (988, oIL 4 990),
  (990, oC (1) 991),
  (991, oIadd 992),
  (992, oSld b L xs 993),
  (993, oAL 0 994),
  (994, oIL 4 996),
  (996, oC (2) 997),
  (997, oIadd 998),
  (998, oSld b L xs 999),
  (999, oGi 9 tX4_printAt 3 3 rmX4_printAt.cells rmX4_printAt.slots room_1.cells room_1.slots 1002),
  (1002, oIS 6 1004),
  (1004, oAL 2 1005),
  (1005, oGi 9 tX4_thrown 1 3 rmX4_thrown.cells rmX4_thrown.slots room_1.cells room_1.slots 1008),
  (1008, oIL 5 1010),
  (1010, oIc_eq 1015 1013),
  (1013, oC (0) 1014),
  (1015, oIL 5 1017),
  (1017, oIf_ne 1032 1020),
  (1020, oAL 3 1021),
  (1021, oC (0) 1022),
  (1022, oJal 1023),
  (1023, oIL 6 1025),
  (1025, oI2l 1026),
  (1026, oLcmp 1027),
  (1027, oIf_eq 1032 1030),
  (1030, oC (0) 1031),
  (1032, oGo 1708)]
set_option maxRecDepth 20000 in
theorem okLc16 {Γ : aΓ} {b L : Nat} {xs : Nat → Int32} (C : FOK Γ code wsL_law RL 9 room_1) (CX : FOX Γ) (CN : FOW Γ) (hS : LScr b L xs Γ) : AllS Γ (tbLc16 b L xs) := by
  unfold tbLc16
  refine al_c (pc := 967) (snd_aload_n C dL_law_967 rfl) ?_
  refine al_c (pc := 968) (snd_aload_n C dL_law_968 rfl) ?_
  refine al_c (pc := 969) (snd_iload C dL_law_969) ?_
  refine al_c (pc := 971) (snd_iconst C dL_law_971 (by decide)) ?_
  refine al_c (pc := 972) (snd_iadd C dL_law_972) ?_
  refine al_c (pc := 973) (snd_Sld C hS dL_law_973) ?_
  refine al_c (pc := 974) (snd_aload_n C dL_law_974 rfl) ?_
  refine al_c (pc := 975) (snd_iload C dL_law_975) ?_
  refine al_c (pc := 977) (snd_iconst C dL_law_977 (by decide)) ?_
  refine al_c (pc := 978) (snd_iadd C dL_law_978) ?_
  refine al_c (pc := 979) (snd_Sld C hS dL_law_979) ?_
  refine al_c (pc := 980) (snd_aload_n C dL_law_980 rfl) ?_
  refine al_c (pc := 981) (snd_Wi C CX CN (site_SW C dL_law_981 gL_law_L_printAt rfl rfl rfl ⟨by decide +kernel, by decide +kernel, by decide +kernel⟩ ⟨by decide, by decide⟩) mL_printAt) ?_
  refine al_c (pc := 984) (snd_istore C dL_law_984 (by decide)) ?_
  refine al_c (pc := 986) (snd_aload_n C dL_law_986 rfl) ?_
  refine al_c (pc := 987) (snd_aload_n C dL_law_987 rfl) ?_
  refine al_c (pc := 988) (snd_iload C dL_law_988) ?_
  refine al_c (pc := 990) (snd_iconst C dL_law_990 (by decide)) ?_
  refine al_c (pc := 991) (snd_iadd C dL_law_991) ?_
  refine al_c (pc := 992) (snd_Sld C hS dL_law_992) ?_
  refine al_c (pc := 993) (snd_aload_n C dL_law_993 rfl) ?_
  refine al_c (pc := 994) (snd_iload C dL_law_994) ?_
  refine al_c (pc := 996) (snd_iconst C dL_law_996 (by decide)) ?_
  refine al_c (pc := 997) (snd_iadd C dL_law_997) ?_
  refine al_c (pc := 998) (snd_Sld C hS dL_law_998) ?_
  refine al_c (pc := 999) (snd_Gi 9 C (site_V C rfl dL_law_999 gL_law_X4_printAt rfl rfl rfl ⟨rfl, by decide +kernel, by decide +kernel, by decide +kernel⟩ ⟨by decide, by decide⟩) mX4_printAt) ?_
  refine al_c (pc := 1002) (snd_istore C dL_law_1002 (by decide)) ?_
  refine al_c (pc := 1004) (snd_aload_n C dL_law_1004 rfl) ?_
  refine al_c (pc := 1005) (snd_Gi 9 C (site_V C rfl dL_law_1005 gL_law_X4_thrown rfl rfl rfl ⟨rfl, by decide +kernel, by decide +kernel, by decide +kernel⟩ ⟨by decide, by decide⟩) mX4_thrown) ?_
  refine al_c (pc := 1008) (snd_iload C dL_law_1008) ?_
  refine al_c (pc := 1010) (snd_icmp_eq C dL_law_1010 (by decide)) ?_
  refine al_c (pc := 1013) (snd_iconst C dL_law_1013 (by decide)) ?_
  refine al_c (pc := 1015) (snd_iload C dL_law_1015) ?_
  refine al_c (pc := 1017) (snd_if_ne C dL_law_1017 (by decide)) ?_
  refine al_c (pc := 1020) (snd_aload_n C dL_law_1020 rfl) ?_
  refine al_c (pc := 1021) (snd_iconst C dL_law_1021 (by decide)) ?_
  refine al_c (pc := 1022) (snd_Jal C dL_law_1022) ?_
  refine al_c (pc := 1023) (snd_iload C dL_law_1023) ?_
  refine al_c (pc := 1025) (snd_i2l C dL_law_1025) ?_
  refine al_c (pc := 1026) (snd_lcmp C dL_law_1026) ?_
  refine al_c (pc := 1027) (snd_if_eq C dL_law_1027 (by decide)) ?_
  refine al_c (pc := 1030) (snd_iconst C dL_law_1030 (by decide)) ?_
  refine al_c (pc := 1032) (snd_goto C dL_law_1032 (by decide)) ?_
  exact al_0
set_option maxHeartbeats 4000000 in
set_option maxRecDepth 100000 in
theorem csL16 {Γ : aΓ} {b L : Nat} {xs : Nat → Int32} (C : FOK Γ code wsL_law RL 9 room_1) (CX : FOX Γ) (CN : FOW Γ) (hS : LScr b L xs Γ) {ad : Nat → Nat} {i : Nat} {D9 M : List aE} {o : Nat → Int64} (had : ad 1000 = b) (hL : L ≤ 2048) (hi : i + 4 ≤ L) (hJ : JJ D9 M)
    (H : ∀ C2 M2 o2, JJ C2 M2 → FG Γ 1708 ad (104 + i) (17020 + 5 * i) [(4, .int (nI i)), (3, .ref 21), (2, .ref 9), (1, .ref 0), (0, .ref 1000)] [] (LW C2 M2 o2)) : FG Γ 967 ad (100 + i) (17000 + 5 * i) [(4, .int (nI i)), (3, .ref 21), (2, .ref 9), (1, .ref 0), (0, .ref 1000)] [] (LW D9 M o) := by
  obtain ⟨l9, fc, hC0⟩ := JJ_C hJ
  obtain ⟨l12, fm, hM0⟩ := JJ_M hJ
  have OK := okLc16 C CX CN hS
  refine go OK [1708] 90 ?_
  refine ⟨rfl, had, i + 1, nI_p1 i, by omega, hL, ?_⟩
  refine ⟨rfl, had, i + 2, nI_p2 i, by omega, hL, ?_⟩
  refine ⟨Pw tX4_printAt svI [.int (xs (i + 1)), .int (xs (i + 2))] M, rfl, (show 100 + i + 1 ≤ 601024 by omega), (show 17000 + 5 * i + 6 ≤ 7293034 by omega), ⟨_, _, _, rfl, wr_ag (ag_printAt (xs (i + 1)) (xs (i + 2))) code1_ne hJ⟩, fun v X2 hP => ?_⟩
  obtain ⟨C2, o2, rfl, l2, hP⟩ := hP
  refine ⟨rfl, had, i + 1, nI_p1 i, by omega, hL, ?_⟩
  refine ⟨rfl, had, i + 2, nI_p2 i, by omega, hL, ?_⟩
  rcases hP with ⟨rfl, r, ho, h4⟩ | ⟨hv, h4⟩
  · refine ⟨C2, M, [.inr (.inr (1, o2))], [.ref 0, .int (xs (i + 1)), .int (xs (i + 2))], _, 0, _, fm, rfl, (show 100 + i + 1 + 0 ≤ 601024 by omega), (show 17000 + 5 * i + 6 + 0 ≤ 7293034 by omega), rfl, hM0, l2, rfl, rfl, h4, fun r3 M2 h5 => ?_⟩
    obtain ⟨hr3, ht, hJ2⟩ := h5
    obtain ⟨l12b, fm2, hM2⟩ := JJ_M hJ2
    refine ⟨l12b.trans l12.symm, ?_⟩
    refine ⟨C2, M2, [.inr (.inr (1, o2))], [.ref 0], _, 0, [], fm2, rfl, (show 100 + i + 1 + 0 + 0 ≤ 601024 by omega), (show 17000 + 5 * i + 6 + 0 + 0 ≤ 7293034 by omega), rfl, hM2, l2, rfl, rfl, thr_T hJ2 ht, fun r4 M3 h6 => ?_⟩
    obtain ⟨hr4, hM3⟩ := h6
    subst hM3
    refine ⟨rfl, ?_⟩
    refine And.intro (fun _ => ?_) (fun q => absurd hr4 q)
    refine And.intro (fun q => absurd rfl q) (fun _ => ?_)
    refine ⟨_, o2, rfl, lw21 l2 l12b, rfl, ?_⟩
    refine And.intro (fun _ => ?_) (fun q => absurd (by rw [ho, hr3]; exact cmp_self _) q)
    exact FG_wid (show 100 + i + 1 + 0 + 0 ≤ 104 + i by omega) (show 17000 + 5 * i + 6 + 0 + 0 ≤ 17020 + 5 * i by omega) (FG_sub [2, 3, 4, 5, 6] rfl (H _ _ _ hJ2))
  · refine ⟨C2, M, [.inr (.inr (1, o2))], [.ref 0, .int (xs (i + 1)), .int (xs (i + 2))], _, 0, _, fm, rfl, (show 100 + i + 1 + 0 ≤ 601024 by omega), (show 17000 + 5 * i + 6 + 0 ≤ 7293034 by omega), rfl, hM0, l2, rfl, rfl, h4, fun r3 M2 h5 => ?_⟩
    obtain ⟨ht, hJ2⟩ := h5
    obtain ⟨l12b, fm2, hM2⟩ := JJ_M hJ2
    refine ⟨l12b.trans l12.symm, ?_⟩
    refine ⟨C2, M2, [.inr (.inr (1, o2))], [.ref 0], _, 0, [], fm2, rfl, (show 100 + i + 1 + 0 + 0 ≤ 601024 by omega), (show 17000 + 5 * i + 6 + 0 + 0 ≤ 7293034 by omega), rfl, hM2, l2, rfl, rfl, thr_T hJ2 ht, fun r4 M3 h6 => ?_⟩
    obtain ⟨hr4, hM3⟩ := h6
    subst hM3
    refine ⟨rfl, ?_⟩
    refine And.intro (fun _ => ?_) (fun q => absurd hr4 q)
    refine And.intro (fun q => ?_) (fun q => absurd q hv)
    exact FG_wid (show 100 + i + 1 + 0 + 0 ≤ 104 + i by omega) (show 17000 + 5 * i + 6 + 0 + 0 ≤ 17020 + 5 * i by omega) (FG_sub [2, 3, 4, 5, 6] rfl (H _ _ _ hJ2))
def tbLc17 (b L : Nat) (xs : Nat → Int32) : List (Nat × aO) := [(1035, oAL 1 1036),
  (1036, oAL 0 1037),
  (1037, oIL 4 1039),
  (1039, oC (1) 1040),
  (1040, oIadd 1041),
  (1041, oSld b L xs 1042),
  (1042, oAL 3 1043),
  (1043, oWi (tW1 tX3_canRoll (code1 "java/lang/IndexOutOfBoundsException") svZ) 3 rmL_canRoll.cells rmL_canRoll.slots room_1.cells room_1.slots 1046),
  (1046, oIS 5 1048),
  (1048, oAL 2 1049),
  (1049, oAL 0 1050),
  (1050, oIL 4 1052),
  (1052, oC (1) 1053),
  (1053, oIadd 1054),
  (1054, oSld b L xs 1055),
  (1055, oGi 9 tX4_canRoll 2 3 rmX4_canRoll.cells rmX4_canRoll.slots room_1.cells room_1.slots 1058),
  (1058, oIS 6 1060),
  (1060, oAL 2 1061),
  (1061, oGi 9 tX4_thrown 1 3 rmX4_thrown.cells rmX4_thrown.slots room_1.cells room_1.slots 1064),
  (1064, oIL 5 1066),
  (1066, oIc_eq 1071 1069),
  (1069, oC (0) 1070),
  (1071, oIL 5 1073),
  (1073, oIf_ne 1095 1076),
  (1076, oAL 3 1077),
  (1077, oC (0) 1078),
  (1078, oJal 1079),
  (1079, oIL 6 1081),
  (1081, oIf_eq 1088 1084),
  (1084, oCL 1 1085),
  (1085, oGo 1089),
  (1088, oCL 0 1089),
  (1089, oLcmp 1090),
  (1090, oIf_eq 1095 1093),
  (1093, oC (0) 1094),
  (1095, oGo 1708)]
set_option maxRecDepth 20000 in
theorem okLc17 {Γ : aΓ} {b L : Nat} {xs : Nat → Int32} (C : FOK Γ code wsL_law RL 9 room_1) (CX : FOX Γ) (CN : FOW Γ) (hS : LScr b L xs Γ) : AllS Γ (tbLc17 b L xs) := by
  unfold tbLc17
  refine al_c (pc := 1035) (snd_aload_n C dL_law_1035 rfl) ?_
  refine al_c (pc := 1036) (snd_aload_n C dL_law_1036 rfl) ?_
  refine al_c (pc := 1037) (snd_iload C dL_law_1037) ?_
  refine al_c (pc := 1039) (snd_iconst C dL_law_1039 (by decide)) ?_
  refine al_c (pc := 1040) (snd_iadd C dL_law_1040) ?_
  refine al_c (pc := 1041) (snd_Sld C hS dL_law_1041) ?_
  refine al_c (pc := 1042) (snd_aload_n C dL_law_1042 rfl) ?_
  refine al_c (pc := 1043) (snd_Wi C CX CN (site_SW C dL_law_1043 gL_law_L_canRoll rfl rfl rfl ⟨by decide +kernel, by decide +kernel, by decide +kernel⟩ ⟨by decide, by decide⟩) mL_canRoll) ?_
  refine al_c (pc := 1046) (snd_istore C dL_law_1046 (by decide)) ?_
  refine al_c (pc := 1048) (snd_aload_n C dL_law_1048 rfl) ?_
  refine al_c (pc := 1049) (snd_aload_n C dL_law_1049 rfl) ?_
  refine al_c (pc := 1050) (snd_iload C dL_law_1050) ?_
  refine al_c (pc := 1052) (snd_iconst C dL_law_1052 (by decide)) ?_
  refine al_c (pc := 1053) (snd_iadd C dL_law_1053) ?_
  refine al_c (pc := 1054) (snd_Sld C hS dL_law_1054) ?_
  refine al_c (pc := 1055) (snd_Gi 9 C (site_V C rfl dL_law_1055 gL_law_X4_canRoll rfl rfl rfl ⟨rfl, by decide +kernel, by decide +kernel, by decide +kernel⟩ ⟨by decide, by decide⟩) mX4_canRoll) ?_
  refine al_c (pc := 1058) (snd_istore C dL_law_1058 (by decide)) ?_
  refine al_c (pc := 1060) (snd_aload_n C dL_law_1060 rfl) ?_
  refine al_c (pc := 1061) (snd_Gi 9 C (site_V C rfl dL_law_1061 gL_law_X4_thrown rfl rfl rfl ⟨rfl, by decide +kernel, by decide +kernel, by decide +kernel⟩ ⟨by decide, by decide⟩) mX4_thrown) ?_
  refine al_c (pc := 1064) (snd_iload C dL_law_1064) ?_
  refine al_c (pc := 1066) (snd_icmp_eq C dL_law_1066 (by decide)) ?_
  refine al_c (pc := 1069) (snd_iconst C dL_law_1069 (by decide)) ?_
  refine al_c (pc := 1071) (snd_iload C dL_law_1071) ?_
  refine al_c (pc := 1073) (snd_if_ne C dL_law_1073 (by decide)) ?_
  refine al_c (pc := 1076) (snd_aload_n C dL_law_1076 rfl) ?_
  refine al_c (pc := 1077) (snd_iconst C dL_law_1077 (by decide)) ?_
  refine al_c (pc := 1078) (snd_Jal C dL_law_1078) ?_
  refine al_c (pc := 1079) (snd_iload C dL_law_1079) ?_
  refine al_c (pc := 1081) (snd_if_eq C dL_law_1081 (by decide)) ?_
  refine al_c (pc := 1084) (snd_lconst C dL_law_1084 (by decide)) ?_
  refine al_c (pc := 1085) (snd_goto C dL_law_1085 (by decide)) ?_
  refine al_c (pc := 1088) (snd_lconst C dL_law_1088 (by decide)) ?_
  refine al_c (pc := 1089) (snd_lcmp C dL_law_1089) ?_
  refine al_c (pc := 1090) (snd_if_eq C dL_law_1090 (by decide)) ?_
  refine al_c (pc := 1093) (snd_iconst C dL_law_1093 (by decide)) ?_
  refine al_c (pc := 1095) (snd_goto C dL_law_1095 (by decide)) ?_
  exact al_0
set_option maxHeartbeats 4000000 in
set_option maxRecDepth 100000 in
theorem csL17 {Γ : aΓ} {b L : Nat} {xs : Nat → Int32} (C : FOK Γ code wsL_law RL 9 room_1) (CX : FOX Γ) (CN : FOW Γ) (hS : LScr b L xs Γ) {ad : Nat → Nat} {i : Nat} {D9 M : List aE} {o : Nat → Int64} (had : ad 1000 = b) (hL : L ≤ 2048) (hi : i + 4 ≤ L) (hJ : JJ D9 M)
    (H : ∀ C2 M2 o2, JJ C2 M2 → FG Γ 1708 ad (104 + i) (17020 + 5 * i) [(4, .int (nI i)), (3, .ref 21), (2, .ref 9), (1, .ref 0), (0, .ref 1000)] [] (LW C2 M2 o2)) : FG Γ 1035 ad (100 + i) (17000 + 5 * i) [(4, .int (nI i)), (3, .ref 21), (2, .ref 9), (1, .ref 0), (0, .ref 1000)] [] (LW D9 M o) := by
  obtain ⟨l9, fc, hC0⟩ := JJ_C hJ
  obtain ⟨l12, fm, hM0⟩ := JJ_M hJ
  have OK := okLc17 C CX CN hS
  refine go OK [1708] 90 ?_
  refine ⟨rfl, had, i + 1, nI_p1 i, by omega, hL, ?_⟩
  refine ⟨Pw tX4_canRoll svZ [.int (xs (i + 1))] M, rfl, (show 100 + i + 1 ≤ 601024 by omega), (show 17000 + 5 * i + 6 ≤ 7293034 by omega), ⟨_, _, rfl, wr_ag (ag_canRoll (xs (i + 1))) code1_ne hJ⟩, fun v X2 hP => ?_⟩
  obtain ⟨C2, o2, rfl, l2, hP⟩ := hP
  refine ⟨rfl, had, i + 1, nI_p1 i, by omega, hL, ?_⟩
  rcases hP with ⟨rfl, r, ho, h4⟩ | ⟨hv, h4⟩
  · refine ⟨C2, M, [.inr (.inr (1, o2))], [.ref 0, .int (xs (i + 1))], _, 0, _, fm, rfl, (show 100 + i + 1 + 0 ≤ 601024 by omega), (show 17000 + 5 * i + 6 + 0 ≤ 7293034 by omega), rfl, hM0, l2, rfl, rfl, h4, fun r3 M2 h5 => ?_⟩
    obtain ⟨hr3, ht, hJ2⟩ := h5
    obtain ⟨l12b, fm2, hM2⟩ := JJ_M hJ2
    refine ⟨l12b.trans l12.symm, ?_⟩
    refine ⟨C2, M2, [.inr (.inr (1, o2))], [.ref 0], _, 0, [], fm2, rfl, (show 100 + i + 1 + 0 + 0 ≤ 601024 by omega), (show 17000 + 5 * i + 6 + 0 + 0 ≤ 7293034 by omega), rfl, hM2, l2, rfl, rfl, thr_T hJ2 ht, fun r4 M3 h6 => ?_⟩
    obtain ⟨hr4, hM3⟩ := h6
    subst hM3
    refine ⟨rfl, ?_⟩
    refine And.intro (fun _ => ?_) (fun q => absurd hr4 q)
    refine And.intro (fun q => absurd rfl q) (fun _ => ?_)
    refine ⟨_, o2, rfl, lw21 l2 l12b, rfl, ?_⟩
    refine And.intro (fun z => ?_) (fun z => ?_)
    · refine And.intro (fun _ => ?_) (fun q => absurd (by rw [ho, show svZ r = 0 from if_pos (hr3.symm.trans z)]; exact cmp_self _) q)
      exact FG_wid (show 100 + i + 1 + 0 + 0 ≤ 104 + i by omega) (show 17000 + 5 * i + 6 + 0 + 0 ≤ 17020 + 5 * i by omega) (FG_sub [2, 3, 4, 5, 6] rfl (H _ _ _ hJ2))
    · refine And.intro (fun _ => ?_) (fun q => absurd (by rw [ho, show svZ r = 1 from if_neg (fun y => z (hr3.trans y))]; exact cmp_self _) q)
      exact FG_wid (show 100 + i + 1 + 0 + 0 ≤ 104 + i by omega) (show 17000 + 5 * i + 6 + 0 + 0 ≤ 17020 + 5 * i by omega) (FG_sub [2, 3, 4, 5, 6] rfl (H _ _ _ hJ2))
  · refine ⟨C2, M, [.inr (.inr (1, o2))], [.ref 0, .int (xs (i + 1))], _, 0, _, fm, rfl, (show 100 + i + 1 + 0 ≤ 601024 by omega), (show 17000 + 5 * i + 6 + 0 ≤ 7293034 by omega), rfl, hM0, l2, rfl, rfl, h4, fun r3 M2 h5 => ?_⟩
    obtain ⟨ht, hJ2⟩ := h5
    obtain ⟨l12b, fm2, hM2⟩ := JJ_M hJ2
    refine ⟨l12b.trans l12.symm, ?_⟩
    refine ⟨C2, M2, [.inr (.inr (1, o2))], [.ref 0], _, 0, [], fm2, rfl, (show 100 + i + 1 + 0 + 0 ≤ 601024 by omega), (show 17000 + 5 * i + 6 + 0 + 0 ≤ 7293034 by omega), rfl, hM2, l2, rfl, rfl, thr_T hJ2 ht, fun r4 M3 h6 => ?_⟩
    obtain ⟨hr4, hM3⟩ := h6
    subst hM3
    refine ⟨rfl, ?_⟩
    refine And.intro (fun _ => ?_) (fun q => absurd hr4 q)
    refine And.intro (fun q => ?_) (fun q => absurd q hv)
    exact FG_wid (show 100 + i + 1 + 0 + 0 ≤ 104 + i by omega) (show 17000 + 5 * i + 6 + 0 + 0 ≤ 17020 + 5 * i by omega) (FG_sub [2, 3, 4, 5, 6] rfl (H _ _ _ hJ2))
def tbLc18 (b L : Nat) (xs : Nat → Int32) : List (Nat × aO) := [(1098, oAL 1 1099),
  (1099, oGi 0 tX3_width 1 2 rmX3_width.cells rmX3_width.slots room_1.cells room_1.slots 1102),
  (1102, oAL 2 1103),
  (1103, oGi 9 tX4_width 1 3 rmX4_width.cells rmX4_width.slots room_1.cells room_1.slots 1106),
  (1106, oIc_eq 1708 1109),
  (1109, oC (0) 1110)]
set_option maxRecDepth 20000 in
theorem okLc18 {Γ : aΓ} {b L : Nat} {xs : Nat → Int32} (C : FOK Γ code wsL_law RL 9 room_1) (CX : FOX Γ) (CN : FOW Γ) (hS : LScr b L xs Γ) : AllS Γ (tbLc18 b L xs) := by
  unfold tbLc18
  refine al_c (pc := 1098) (snd_aload_n C dL_law_1098 rfl) ?_
  refine al_c (pc := 1099) (snd_Gi 0 C (site_V C rfl dL_law_1099 gL_law_X3_width rfl rfl rfl ⟨rfl, by decide +kernel, by decide +kernel, by decide +kernel⟩ ⟨by decide, by decide⟩) mX3_width) ?_
  refine al_c (pc := 1102) (snd_aload_n C dL_law_1102 rfl) ?_
  refine al_c (pc := 1103) (snd_Gi 9 C (site_V C rfl dL_law_1103 gL_law_X4_width rfl rfl rfl ⟨rfl, by decide +kernel, by decide +kernel, by decide +kernel⟩ ⟨by decide, by decide⟩) mX4_width) ?_
  refine al_c (pc := 1106) (snd_icmp_eq C dL_law_1106 (by decide)) ?_
  refine al_c (pc := 1109) (snd_iconst C dL_law_1109 (by decide)) ?_
  exact al_0
set_option maxHeartbeats 4000000 in
set_option maxRecDepth 100000 in
theorem csL18 {Γ : aΓ} {b L : Nat} {xs : Nat → Int32} (C : FOK Γ code wsL_law RL 9 room_1) (CX : FOX Γ) (CN : FOW Γ) (hS : LScr b L xs Γ) {ad : Nat → Nat} {i : Nat} {D9 M : List aE} {o : Nat → Int64} (had : ad 1000 = b) (hL : L ≤ 2048) (hi : i + 4 ≤ L) (hJ : JJ D9 M)
    (H : ∀ C2 M2 o2, JJ C2 M2 → FG Γ 1708 ad (104 + i) (17020 + 5 * i) [(4, .int (nI i)), (3, .ref 21), (2, .ref 9), (1, .ref 0), (0, .ref 1000)] [] (LW C2 M2 o2)) : FG Γ 1098 ad (100 + i) (17000 + 5 * i) [(4, .int (nI i)), (3, .ref 21), (2, .ref 9), (1, .ref 0), (0, .ref 1000)] [] (LW D9 M o) := by
  obtain ⟨l9, fc, hC0⟩ := JJ_C hJ
  obtain ⟨l12, fm, hM0⟩ := JJ_M hJ
  have OK := okLc18 C CX CN hS
  refine go OK [1708] 90 ?_
  refine ⟨[], D9, M.map (shE 9) ++ [.inr (.inr (1, o))], [.ref 0], _, 0, [], fc, rfl, (show 100 + i + 0 ≤ 601024 by omega), (show 17000 + 5 * i + 0 ≤ 7293034 by omega), rfl, hC0, rfl, lw_0, rfl, ag_width D9 M hJ, fun r C2 h5 => ?_⟩
  obtain ⟨l2, h4⟩ := h5
  refine ⟨l2.trans l9.symm, ?_⟩
  refine ⟨C2, M, [.inr (.inr (1, o))], [.ref 0], _, 0, [], fm, rfl, (show 100 + i + 0 + 0 ≤ 601024 by omega), (show 17000 + 5 * i + 0 + 0 ≤ 7293034 by omega), rfl, hM0, l2, lw_1, rfl, h4, fun r3 M2 h6 => ?_⟩
  obtain ⟨rfl, hJ2⟩ := h6
  refine ⟨(JJ_M hJ2).1.trans l12.symm, ?_⟩
  refine And.intro (fun _ => ?_) (fun q => absurd rfl q)
  exact FG_wid (show 100 + i + 0 + 0 ≤ 104 + i by omega) (show 17000 + 5 * i + 0 + 0 ≤ 17020 + 5 * i by omega) (H _ _ _ hJ2)
def tbLc19 (b L : Nat) (xs : Nat → Int32) : List (Nat × aO) := [(1111, oAL 1 1112),
  (1112, oGi 0 tX3_height 1 2 rmX3_height.cells rmX3_height.slots room_1.cells room_1.slots 1115),
  (1115, oAL 2 1116),
  (1116, oGi 9 tX4_height 1 3 rmX4_height.cells rmX4_height.slots room_1.cells room_1.slots 1119),
  (1119, oIc_eq 1708 1122),
  (1122, oC (0) 1123)]
set_option maxRecDepth 20000 in
theorem okLc19 {Γ : aΓ} {b L : Nat} {xs : Nat → Int32} (C : FOK Γ code wsL_law RL 9 room_1) (CX : FOX Γ) (CN : FOW Γ) (hS : LScr b L xs Γ) : AllS Γ (tbLc19 b L xs) := by
  unfold tbLc19
  refine al_c (pc := 1111) (snd_aload_n C dL_law_1111 rfl) ?_
  refine al_c (pc := 1112) (snd_Gi 0 C (site_V C rfl dL_law_1112 gL_law_X3_height rfl rfl rfl ⟨rfl, by decide +kernel, by decide +kernel, by decide +kernel⟩ ⟨by decide, by decide⟩) mX3_height) ?_
  refine al_c (pc := 1115) (snd_aload_n C dL_law_1115 rfl) ?_
  refine al_c (pc := 1116) (snd_Gi 9 C (site_V C rfl dL_law_1116 gL_law_X4_height rfl rfl rfl ⟨rfl, by decide +kernel, by decide +kernel, by decide +kernel⟩ ⟨by decide, by decide⟩) mX4_height) ?_
  refine al_c (pc := 1119) (snd_icmp_eq C dL_law_1119 (by decide)) ?_
  refine al_c (pc := 1122) (snd_iconst C dL_law_1122 (by decide)) ?_
  exact al_0
set_option maxHeartbeats 4000000 in
set_option maxRecDepth 100000 in
theorem csL19 {Γ : aΓ} {b L : Nat} {xs : Nat → Int32} (C : FOK Γ code wsL_law RL 9 room_1) (CX : FOX Γ) (CN : FOW Γ) (hS : LScr b L xs Γ) {ad : Nat → Nat} {i : Nat} {D9 M : List aE} {o : Nat → Int64} (had : ad 1000 = b) (hL : L ≤ 2048) (hi : i + 4 ≤ L) (hJ : JJ D9 M)
    (H : ∀ C2 M2 o2, JJ C2 M2 → FG Γ 1708 ad (104 + i) (17020 + 5 * i) [(4, .int (nI i)), (3, .ref 21), (2, .ref 9), (1, .ref 0), (0, .ref 1000)] [] (LW C2 M2 o2)) : FG Γ 1111 ad (100 + i) (17000 + 5 * i) [(4, .int (nI i)), (3, .ref 21), (2, .ref 9), (1, .ref 0), (0, .ref 1000)] [] (LW D9 M o) := by
  obtain ⟨l9, fc, hC0⟩ := JJ_C hJ
  obtain ⟨l12, fm, hM0⟩ := JJ_M hJ
  have OK := okLc19 C CX CN hS
  refine go OK [1708] 90 ?_
  refine ⟨[], D9, M.map (shE 9) ++ [.inr (.inr (1, o))], [.ref 0], _, 0, [], fc, rfl, (show 100 + i + 0 ≤ 601024 by omega), (show 17000 + 5 * i + 0 ≤ 7293034 by omega), rfl, hC0, rfl, lw_0, rfl, ag_height D9 M hJ, fun r C2 h5 => ?_⟩
  obtain ⟨l2, h4⟩ := h5
  refine ⟨l2.trans l9.symm, ?_⟩
  refine ⟨C2, M, [.inr (.inr (1, o))], [.ref 0], _, 0, [], fm, rfl, (show 100 + i + 0 + 0 ≤ 601024 by omega), (show 17000 + 5 * i + 0 + 0 ≤ 7293034 by omega), rfl, hM0, l2, lw_1, rfl, h4, fun r3 M2 h6 => ?_⟩
  obtain ⟨rfl, hJ2⟩ := h6
  refine ⟨(JJ_M hJ2).1.trans l12.symm, ?_⟩
  refine And.intro (fun _ => ?_) (fun q => absurd rfl q)
  exact FG_wid (show 100 + i + 0 + 0 ≤ 104 + i by omega) (show 17000 + 5 * i + 0 + 0 ≤ 17020 + 5 * i by omega) (H _ _ _ hJ2)
def tbLc20 (b L : Nat) (xs : Nat → Int32) : List (Nat × aO) := [(1124, oAL 1 1125),
  (1125, oGi 0 tX3_walls 1 2 rmX3_walls.cells rmX3_walls.slots room_1.cells room_1.slots 1128),
  (1128, oAL 2 1129),
  (1129, oGi 9 tX4_walls 1 3 rmX4_walls.cells rmX4_walls.slots room_1.cells room_1.slots 1132),
  (1132, oIc_eq 1708 1135),
  (1135, oC (0) 1136)]
set_option maxRecDepth 20000 in
theorem okLc20 {Γ : aΓ} {b L : Nat} {xs : Nat → Int32} (C : FOK Γ code wsL_law RL 9 room_1) (CX : FOX Γ) (CN : FOW Γ) (hS : LScr b L xs Γ) : AllS Γ (tbLc20 b L xs) := by
  unfold tbLc20
  refine al_c (pc := 1124) (snd_aload_n C dL_law_1124 rfl) ?_
  refine al_c (pc := 1125) (snd_Gi 0 C (site_V C rfl dL_law_1125 gL_law_X3_walls rfl rfl rfl ⟨rfl, by decide +kernel, by decide +kernel, by decide +kernel⟩ ⟨by decide, by decide⟩) mX3_walls) ?_
  refine al_c (pc := 1128) (snd_aload_n C dL_law_1128 rfl) ?_
  refine al_c (pc := 1129) (snd_Gi 9 C (site_V C rfl dL_law_1129 gL_law_X4_walls rfl rfl rfl ⟨rfl, by decide +kernel, by decide +kernel, by decide +kernel⟩ ⟨by decide, by decide⟩) mX4_walls) ?_
  refine al_c (pc := 1132) (snd_icmp_eq C dL_law_1132 (by decide)) ?_
  refine al_c (pc := 1135) (snd_iconst C dL_law_1135 (by decide)) ?_
  exact al_0
set_option maxHeartbeats 4000000 in
set_option maxRecDepth 100000 in
theorem csL20 {Γ : aΓ} {b L : Nat} {xs : Nat → Int32} (C : FOK Γ code wsL_law RL 9 room_1) (CX : FOX Γ) (CN : FOW Γ) (hS : LScr b L xs Γ) {ad : Nat → Nat} {i : Nat} {D9 M : List aE} {o : Nat → Int64} (had : ad 1000 = b) (hL : L ≤ 2048) (hi : i + 4 ≤ L) (hJ : JJ D9 M)
    (H : ∀ C2 M2 o2, JJ C2 M2 → FG Γ 1708 ad (104 + i) (17020 + 5 * i) [(4, .int (nI i)), (3, .ref 21), (2, .ref 9), (1, .ref 0), (0, .ref 1000)] [] (LW C2 M2 o2)) : FG Γ 1124 ad (100 + i) (17000 + 5 * i) [(4, .int (nI i)), (3, .ref 21), (2, .ref 9), (1, .ref 0), (0, .ref 1000)] [] (LW D9 M o) := by
  obtain ⟨l9, fc, hC0⟩ := JJ_C hJ
  obtain ⟨l12, fm, hM0⟩ := JJ_M hJ
  have OK := okLc20 C CX CN hS
  refine go OK [1708] 90 ?_
  refine ⟨[], D9, M.map (shE 9) ++ [.inr (.inr (1, o))], [.ref 0], _, 0, [], fc, rfl, (show 100 + i + 0 ≤ 601024 by omega), (show 17000 + 5 * i + 0 ≤ 7293034 by omega), rfl, hC0, rfl, lw_0, rfl, ag_walls D9 M hJ, fun r C2 h5 => ?_⟩
  obtain ⟨l2, h4⟩ := h5
  refine ⟨l2.trans l9.symm, ?_⟩
  refine ⟨C2, M, [.inr (.inr (1, o))], [.ref 0], _, 0, [], fm, rfl, (show 100 + i + 0 + 0 ≤ 601024 by omega), (show 17000 + 5 * i + 0 + 0 ≤ 7293034 by omega), rfl, hM0, l2, lw_1, rfl, h4, fun r3 M2 h6 => ?_⟩
  obtain ⟨rfl, hJ2⟩ := h6
  refine ⟨(JJ_M hJ2).1.trans l12.symm, ?_⟩
  refine And.intro (fun _ => ?_) (fun q => absurd rfl q)
  exact FG_wid (show 100 + i + 0 + 0 ≤ 104 + i by omega) (show 17000 + 5 * i + 0 + 0 ≤ 17020 + 5 * i by omega) (H _ _ _ hJ2)
def tbLc21 (b L : Nat) (xs : Nat → Int32) : List (Nat × aO) := [(1137, oAL 1 1138),
  (1138, oGi 0 tX3_rolls 1 2 rmX3_rolls.cells rmX3_rolls.slots room_1.cells room_1.slots 1141),
  (1141, oAL 2 1142),
  (1142, oGi 9 tX4_rolls 1 3 rmX4_rolls.cells rmX4_rolls.slots room_1.cells room_1.slots 1145),
  (1145, oIc_eq 1708 1148),
  (1148, oC (0) 1149)]
set_option maxRecDepth 20000 in
theorem okLc21 {Γ : aΓ} {b L : Nat} {xs : Nat → Int32} (C : FOK Γ code wsL_law RL 9 room_1) (CX : FOX Γ) (CN : FOW Γ) (hS : LScr b L xs Γ) : AllS Γ (tbLc21 b L xs) := by
  unfold tbLc21
  refine al_c (pc := 1137) (snd_aload_n C dL_law_1137 rfl) ?_
  refine al_c (pc := 1138) (snd_Gi 0 C (site_V C rfl dL_law_1138 gL_law_X3_rolls rfl rfl rfl ⟨rfl, by decide +kernel, by decide +kernel, by decide +kernel⟩ ⟨by decide, by decide⟩) mX3_rolls) ?_
  refine al_c (pc := 1141) (snd_aload_n C dL_law_1141 rfl) ?_
  refine al_c (pc := 1142) (snd_Gi 9 C (site_V C rfl dL_law_1142 gL_law_X4_rolls rfl rfl rfl ⟨rfl, by decide +kernel, by decide +kernel, by decide +kernel⟩ ⟨by decide, by decide⟩) mX4_rolls) ?_
  refine al_c (pc := 1145) (snd_icmp_eq C dL_law_1145 (by decide)) ?_
  refine al_c (pc := 1148) (snd_iconst C dL_law_1148 (by decide)) ?_
  exact al_0
set_option maxHeartbeats 4000000 in
set_option maxRecDepth 100000 in
theorem csL21 {Γ : aΓ} {b L : Nat} {xs : Nat → Int32} (C : FOK Γ code wsL_law RL 9 room_1) (CX : FOX Γ) (CN : FOW Γ) (hS : LScr b L xs Γ) {ad : Nat → Nat} {i : Nat} {D9 M : List aE} {o : Nat → Int64} (had : ad 1000 = b) (hL : L ≤ 2048) (hi : i + 4 ≤ L) (hJ : JJ D9 M)
    (H : ∀ C2 M2 o2, JJ C2 M2 → FG Γ 1708 ad (104 + i) (17020 + 5 * i) [(4, .int (nI i)), (3, .ref 21), (2, .ref 9), (1, .ref 0), (0, .ref 1000)] [] (LW C2 M2 o2)) : FG Γ 1137 ad (100 + i) (17000 + 5 * i) [(4, .int (nI i)), (3, .ref 21), (2, .ref 9), (1, .ref 0), (0, .ref 1000)] [] (LW D9 M o) := by
  obtain ⟨l9, fc, hC0⟩ := JJ_C hJ
  obtain ⟨l12, fm, hM0⟩ := JJ_M hJ
  have OK := okLc21 C CX CN hS
  refine go OK [1708] 90 ?_
  refine ⟨[], D9, M.map (shE 9) ++ [.inr (.inr (1, o))], [.ref 0], _, 0, [], fc, rfl, (show 100 + i + 0 ≤ 601024 by omega), (show 17000 + 5 * i + 0 ≤ 7293034 by omega), rfl, hC0, rfl, lw_0, rfl, ag_rolls D9 M hJ, fun r C2 h5 => ?_⟩
  obtain ⟨l2, h4⟩ := h5
  refine ⟨l2.trans l9.symm, ?_⟩
  refine ⟨C2, M, [.inr (.inr (1, o))], [.ref 0], _, 0, [], fm, rfl, (show 100 + i + 0 + 0 ≤ 601024 by omega), (show 17000 + 5 * i + 0 + 0 ≤ 7293034 by omega), rfl, hM0, l2, lw_1, rfl, h4, fun r3 M2 h6 => ?_⟩
  obtain ⟨rfl, hJ2⟩ := h6
  refine ⟨(JJ_M hJ2).1.trans l12.symm, ?_⟩
  refine And.intro (fun _ => ?_) (fun q => absurd rfl q)
  exact FG_wid (show 100 + i + 0 + 0 ≤ 104 + i by omega) (show 17000 + 5 * i + 0 + 0 ≤ 17020 + 5 * i by omega) (H _ _ _ hJ2)
def tbLc22 (b L : Nat) (xs : Nat → Int32) : List (Nat × aO) := [(1150, oAL 1 1151),
  (1151, oGi 0 tX3_prints 1 2 rmX3_prints.cells rmX3_prints.slots room_1.cells room_1.slots 1154),
  (1154, oAL 2 1155),
  (1155, oGi 9 tX4_prints 1 3 rmX4_prints.cells rmX4_prints.slots room_1.cells room_1.slots 1158),
  (1158, oIc_eq 1708 1161),
  (1161, oC (0) 1162)]
set_option maxRecDepth 20000 in
theorem okLc22 {Γ : aΓ} {b L : Nat} {xs : Nat → Int32} (C : FOK Γ code wsL_law RL 9 room_1) (CX : FOX Γ) (CN : FOW Γ) (hS : LScr b L xs Γ) : AllS Γ (tbLc22 b L xs) := by
  unfold tbLc22
  refine al_c (pc := 1150) (snd_aload_n C dL_law_1150 rfl) ?_
  refine al_c (pc := 1151) (snd_Gi 0 C (site_V C rfl dL_law_1151 gL_law_X3_prints rfl rfl rfl ⟨rfl, by decide +kernel, by decide +kernel, by decide +kernel⟩ ⟨by decide, by decide⟩) mX3_prints) ?_
  refine al_c (pc := 1154) (snd_aload_n C dL_law_1154 rfl) ?_
  refine al_c (pc := 1155) (snd_Gi 9 C (site_V C rfl dL_law_1155 gL_law_X4_prints rfl rfl rfl ⟨rfl, by decide +kernel, by decide +kernel, by decide +kernel⟩ ⟨by decide, by decide⟩) mX4_prints) ?_
  refine al_c (pc := 1158) (snd_icmp_eq C dL_law_1158 (by decide)) ?_
  refine al_c (pc := 1161) (snd_iconst C dL_law_1161 (by decide)) ?_
  exact al_0
set_option maxHeartbeats 4000000 in
set_option maxRecDepth 100000 in
theorem csL22 {Γ : aΓ} {b L : Nat} {xs : Nat → Int32} (C : FOK Γ code wsL_law RL 9 room_1) (CX : FOX Γ) (CN : FOW Γ) (hS : LScr b L xs Γ) {ad : Nat → Nat} {i : Nat} {D9 M : List aE} {o : Nat → Int64} (had : ad 1000 = b) (hL : L ≤ 2048) (hi : i + 4 ≤ L) (hJ : JJ D9 M)
    (H : ∀ C2 M2 o2, JJ C2 M2 → FG Γ 1708 ad (104 + i) (17020 + 5 * i) [(4, .int (nI i)), (3, .ref 21), (2, .ref 9), (1, .ref 0), (0, .ref 1000)] [] (LW C2 M2 o2)) : FG Γ 1150 ad (100 + i) (17000 + 5 * i) [(4, .int (nI i)), (3, .ref 21), (2, .ref 9), (1, .ref 0), (0, .ref 1000)] [] (LW D9 M o) := by
  obtain ⟨l9, fc, hC0⟩ := JJ_C hJ
  obtain ⟨l12, fm, hM0⟩ := JJ_M hJ
  have OK := okLc22 C CX CN hS
  refine go OK [1708] 90 ?_
  refine ⟨[], D9, M.map (shE 9) ++ [.inr (.inr (1, o))], [.ref 0], _, 0, [], fc, rfl, (show 100 + i + 0 ≤ 601024 by omega), (show 17000 + 5 * i + 0 ≤ 7293034 by omega), rfl, hC0, rfl, lw_0, rfl, ag_prints D9 M hJ, fun r C2 h5 => ?_⟩
  obtain ⟨l2, h4⟩ := h5
  refine ⟨l2.trans l9.symm, ?_⟩
  refine ⟨C2, M, [.inr (.inr (1, o))], [.ref 0], _, 0, [], fm, rfl, (show 100 + i + 0 + 0 ≤ 601024 by omega), (show 17000 + 5 * i + 0 + 0 ≤ 7293034 by omega), rfl, hM0, l2, lw_1, rfl, h4, fun r3 M2 h6 => ?_⟩
  obtain ⟨rfl, hJ2⟩ := h6
  refine ⟨(JJ_M hJ2).1.trans l12.symm, ?_⟩
  refine And.intro (fun _ => ?_) (fun q => absurd rfl q)
  exact FG_wid (show 100 + i + 0 + 0 ≤ 104 + i by omega) (show 17000 + 5 * i + 0 + 0 ≤ 17020 + 5 * i by omega) (H _ _ _ hJ2)
def tbLc23 (b L : Nat) (xs : Nat → Int32) : List (Nat × aO) := [(1163, oAL 1 1164),
  (1164, oAL 0 1165),
  (1165, oIL 4 1167),
  (1167, oC (1) 1168),
  (1168, oIadd 1169),
  (1169, oSld b L xs 1170),
  (1170, oAL 3 1171),
  (1171, oWi (tW1 tX3_cellsWith (code1 "java/lang/IndexOutOfBoundsException") svI) 3 rmL_cellsWith.cells rmL_cellsWith.slots room_1.cells room_1.slots 1174),
  (1174, oIS 5 1176),
  (1176, oAL 2 1177),
  (1177, oAL 0 1178),
  (1178, oIL 4 1180),
  (1180, oC (1) 1181),
  (1181, oIadd 1182),
  (1182, oSld b L xs 1183),
  (1183, oGi 9 tX4_cellsWith 2 3 rmX4_cellsWith.cells rmX4_cellsWith.slots room_1.cells room_1.slots 1186),
  (1186, oIS 6 1188),
  (1188, oAL 2 1189),
  (1189, oGi 9 tX4_thrown 1 3 rmX4_thrown.cells rmX4_thrown.slots room_1.cells room_1.slots 1192),
  (1192, oIL 5 1194),
  (1194, oIc_eq 1199 1197),
  (1197, oC (0) 1198),
  (1199, oIL 5 1201),
  (1201, oIf_ne 1216 1204),
  (1204, oAL 3 1205),
  (1205, oC (0) 1206),
  (1206, oJal 1207),
  (1207, oIL 6 1209),
  (1209, oI2l 1210),
  (1210, oLcmp 1211),
  (1211, oIf_eq 1216 1214),
  (1214, oC (0) 1215),
  (1216, oGo 1708)]
set_option maxRecDepth 20000 in
theorem okLc23 {Γ : aΓ} {b L : Nat} {xs : Nat → Int32} (C : FOK Γ code wsL_law RL 9 room_1) (CX : FOX Γ) (CN : FOW Γ) (hS : LScr b L xs Γ) : AllS Γ (tbLc23 b L xs) := by
  unfold tbLc23
  refine al_c (pc := 1163) (snd_aload_n C dL_law_1163 rfl) ?_
  refine al_c (pc := 1164) (snd_aload_n C dL_law_1164 rfl) ?_
  refine al_c (pc := 1165) (snd_iload C dL_law_1165) ?_
  refine al_c (pc := 1167) (snd_iconst C dL_law_1167 (by decide)) ?_
  refine al_c (pc := 1168) (snd_iadd C dL_law_1168) ?_
  refine al_c (pc := 1169) (snd_Sld C hS dL_law_1169) ?_
  refine al_c (pc := 1170) (snd_aload_n C dL_law_1170 rfl) ?_
  refine al_c (pc := 1171) (snd_Wi C CX CN (site_SW C dL_law_1171 gL_law_L_cellsWith rfl rfl rfl ⟨by decide +kernel, by decide +kernel, by decide +kernel⟩ ⟨by decide, by decide⟩) mL_cellsWith) ?_
  refine al_c (pc := 1174) (snd_istore C dL_law_1174 (by decide)) ?_
  refine al_c (pc := 1176) (snd_aload_n C dL_law_1176 rfl) ?_
  refine al_c (pc := 1177) (snd_aload_n C dL_law_1177 rfl) ?_
  refine al_c (pc := 1178) (snd_iload C dL_law_1178) ?_
  refine al_c (pc := 1180) (snd_iconst C dL_law_1180 (by decide)) ?_
  refine al_c (pc := 1181) (snd_iadd C dL_law_1181) ?_
  refine al_c (pc := 1182) (snd_Sld C hS dL_law_1182) ?_
  refine al_c (pc := 1183) (snd_Gi 9 C (site_V C rfl dL_law_1183 gL_law_X4_cellsWith rfl rfl rfl ⟨rfl, by decide +kernel, by decide +kernel, by decide +kernel⟩ ⟨by decide, by decide⟩) mX4_cellsWith) ?_
  refine al_c (pc := 1186) (snd_istore C dL_law_1186 (by decide)) ?_
  refine al_c (pc := 1188) (snd_aload_n C dL_law_1188 rfl) ?_
  refine al_c (pc := 1189) (snd_Gi 9 C (site_V C rfl dL_law_1189 gL_law_X4_thrown rfl rfl rfl ⟨rfl, by decide +kernel, by decide +kernel, by decide +kernel⟩ ⟨by decide, by decide⟩) mX4_thrown) ?_
  refine al_c (pc := 1192) (snd_iload C dL_law_1192) ?_
  refine al_c (pc := 1194) (snd_icmp_eq C dL_law_1194 (by decide)) ?_
  refine al_c (pc := 1197) (snd_iconst C dL_law_1197 (by decide)) ?_
  refine al_c (pc := 1199) (snd_iload C dL_law_1199) ?_
  refine al_c (pc := 1201) (snd_if_ne C dL_law_1201 (by decide)) ?_
  refine al_c (pc := 1204) (snd_aload_n C dL_law_1204 rfl) ?_
  refine al_c (pc := 1205) (snd_iconst C dL_law_1205 (by decide)) ?_
  refine al_c (pc := 1206) (snd_Jal C dL_law_1206) ?_
  refine al_c (pc := 1207) (snd_iload C dL_law_1207) ?_
  refine al_c (pc := 1209) (snd_i2l C dL_law_1209) ?_
  refine al_c (pc := 1210) (snd_lcmp C dL_law_1210) ?_
  refine al_c (pc := 1211) (snd_if_eq C dL_law_1211 (by decide)) ?_
  refine al_c (pc := 1214) (snd_iconst C dL_law_1214 (by decide)) ?_
  refine al_c (pc := 1216) (snd_goto C dL_law_1216 (by decide)) ?_
  exact al_0
set_option maxHeartbeats 4000000 in
set_option maxRecDepth 100000 in
theorem csL23 {Γ : aΓ} {b L : Nat} {xs : Nat → Int32} (C : FOK Γ code wsL_law RL 9 room_1) (CX : FOX Γ) (CN : FOW Γ) (hS : LScr b L xs Γ) {ad : Nat → Nat} {i : Nat} {D9 M : List aE} {o : Nat → Int64} (had : ad 1000 = b) (hL : L ≤ 2048) (hi : i + 4 ≤ L) (hJ : JJ D9 M)
    (H : ∀ C2 M2 o2, JJ C2 M2 → FG Γ 1708 ad (104 + i) (17020 + 5 * i) [(4, .int (nI i)), (3, .ref 21), (2, .ref 9), (1, .ref 0), (0, .ref 1000)] [] (LW C2 M2 o2)) : FG Γ 1163 ad (100 + i) (17000 + 5 * i) [(4, .int (nI i)), (3, .ref 21), (2, .ref 9), (1, .ref 0), (0, .ref 1000)] [] (LW D9 M o) := by
  obtain ⟨l9, fc, hC0⟩ := JJ_C hJ
  obtain ⟨l12, fm, hM0⟩ := JJ_M hJ
  have OK := okLc23 C CX CN hS
  refine go OK [1708] 90 ?_
  refine ⟨rfl, had, i + 1, nI_p1 i, by omega, hL, ?_⟩
  refine ⟨Pw tX4_cellsWith svI [.int (xs (i + 1))] M, rfl, (show 100 + i + 1 ≤ 601024 by omega), (show 17000 + 5 * i + 6 ≤ 7293034 by omega), ⟨_, _, rfl, wr_ag (ag_cellsWith (xs (i + 1))) code1_ne hJ⟩, fun v X2 hP => ?_⟩
  obtain ⟨C2, o2, rfl, l2, hP⟩ := hP
  refine ⟨rfl, had, i + 1, nI_p1 i, by omega, hL, ?_⟩
  rcases hP with ⟨rfl, r, ho, h4⟩ | ⟨hv, h4⟩
  · refine ⟨C2, M, [.inr (.inr (1, o2))], [.ref 0, .int (xs (i + 1))], _, 0, _, fm, rfl, (show 100 + i + 1 + 0 ≤ 601024 by omega), (show 17000 + 5 * i + 6 + 0 ≤ 7293034 by omega), rfl, hM0, l2, rfl, rfl, h4, fun r3 M2 h5 => ?_⟩
    obtain ⟨hr3, ht, hJ2⟩ := h5
    obtain ⟨l12b, fm2, hM2⟩ := JJ_M hJ2
    refine ⟨l12b.trans l12.symm, ?_⟩
    refine ⟨C2, M2, [.inr (.inr (1, o2))], [.ref 0], _, 0, [], fm2, rfl, (show 100 + i + 1 + 0 + 0 ≤ 601024 by omega), (show 17000 + 5 * i + 6 + 0 + 0 ≤ 7293034 by omega), rfl, hM2, l2, rfl, rfl, thr_T hJ2 ht, fun r4 M3 h6 => ?_⟩
    obtain ⟨hr4, hM3⟩ := h6
    subst hM3
    refine ⟨rfl, ?_⟩
    refine And.intro (fun _ => ?_) (fun q => absurd hr4 q)
    refine And.intro (fun q => absurd rfl q) (fun _ => ?_)
    refine ⟨_, o2, rfl, lw21 l2 l12b, rfl, ?_⟩
    refine And.intro (fun _ => ?_) (fun q => absurd (by rw [ho, hr3]; exact cmp_self _) q)
    exact FG_wid (show 100 + i + 1 + 0 + 0 ≤ 104 + i by omega) (show 17000 + 5 * i + 6 + 0 + 0 ≤ 17020 + 5 * i by omega) (FG_sub [2, 3, 4, 5, 6] rfl (H _ _ _ hJ2))
  · refine ⟨C2, M, [.inr (.inr (1, o2))], [.ref 0, .int (xs (i + 1))], _, 0, _, fm, rfl, (show 100 + i + 1 + 0 ≤ 601024 by omega), (show 17000 + 5 * i + 6 + 0 ≤ 7293034 by omega), rfl, hM0, l2, rfl, rfl, h4, fun r3 M2 h5 => ?_⟩
    obtain ⟨ht, hJ2⟩ := h5
    obtain ⟨l12b, fm2, hM2⟩ := JJ_M hJ2
    refine ⟨l12b.trans l12.symm, ?_⟩
    refine ⟨C2, M2, [.inr (.inr (1, o2))], [.ref 0], _, 0, [], fm2, rfl, (show 100 + i + 1 + 0 + 0 ≤ 601024 by omega), (show 17000 + 5 * i + 6 + 0 + 0 ≤ 7293034 by omega), rfl, hM2, l2, rfl, rfl, thr_T hJ2 ht, fun r4 M3 h6 => ?_⟩
    obtain ⟨hr4, hM3⟩ := h6
    subst hM3
    refine ⟨rfl, ?_⟩
    refine And.intro (fun _ => ?_) (fun q => absurd hr4 q)
    refine And.intro (fun q => ?_) (fun q => absurd q hv)
    exact FG_wid (show 100 + i + 1 + 0 + 0 ≤ 104 + i by omega) (show 17000 + 5 * i + 6 + 0 + 0 ≤ 17020 + 5 * i by omega) (FG_sub [2, 3, 4, 5, 6] rfl (H _ _ _ hJ2))
