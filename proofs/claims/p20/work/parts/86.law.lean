theorem zl_19 {xs : Nat × (Nat → Int32)} {n0 : Nat} (hx : xs.1 = n0 + 1) {Q : Option Value → ZS → Prop} (i : Int) (hi : 0 ≤ i ∧ i + 6 ≤ n0 ∧ n0 ≤ 3072) (p1 p2 p3 p4 p5 : Int) (h1 : -2147483648 ≤ p1 ∧ p1 ≤ 2147483647) (h2 : -2147483648 ≤ p2 ∧ p2 ≤ 2147483647) (h3 : -2147483648 ≤ p3 ∧ p3 ≤ 2147483647) (h4 : -2147483648 ≤ p4 ∧ p4 ≤ 2147483647) (h5 : -2147483648 ≤ p5 ∧ p5 ≤ 2147483647) (e1 : xs.2 (Int.toNat (i + 1)) = Int32.ofInt p1) (e2 : xs.2 (Int.toNat (i + 2)) = Int32.ofInt p2) (e3 : xs.2 (Int.toNat (i + 3)) = Int32.ofInt p3) (e4 : xs.2 (Int.toNat (i + 4)) = Int32.ofInt p4) (e5 : xs.2 (Int.toNat (i + 5)) = Int32.ofInt p5) (hk : TJ xs JR 120 191 18 [(0, .ref 0), (1, av 0 0 0), (2, av 35 0 0), (3, iv (i + 6))] [] Q) : TJ xs JR 120 191 967 [(0, .ref 0), (1, av 0 0 0), (2, av 35 0 0), (3, iv i)] [] Q := by
  refine T_ld zk_191_967 rfl rfl rfl (pc' := 968) rfl ?_
  refine T_ld zk_191_968 rfl rfl rfl (pc' := 969) rfl ?_
  refine T_ld zk_191_969 rfl rfl rfl (pc' := 970) rfl ?_
  refine T_op zk_191_970 rfl X_ic (pc' := 971) rfl ?_
  refine T_op zk_191_971 rfl X_add (pc' := 972) rfl ?_
  refine T_sld (n := n0) (w := p1) zk_191_972 hx (by omega) (by omega) (by omega) e1 (pc' := 973) rfl ?_
  refine T_ld zk_191_973 rfl rfl rfl (pc' := 974) rfl ?_
  refine T_ld zk_191_974 rfl rfl rfl (pc' := 975) rfl ?_
  refine T_op zk_191_975 rfl X_ic (pc' := 976) rfl ?_
  refine T_op zk_191_976 rfl X_add (pc' := 977) rfl ?_
  refine T_sld (n := n0) (w := p2) zk_191_977 hx (by omega) (by omega) (by omega) e2 (pc' := 978) rfl ?_
  refine T_if_eq zk_191_978 (by omega) (pc' := 981) rfl (fun b1 => ?_) (fun b1 => ?_)
  ·
    refine T_op zk_191_985 rfl X_ic (pc' := 986) rfl ?_
    refine T_calli (K := fun y2 σ' => (True) ∧ JR σ') (r := []) zk_191_986 rfl rfl rfl rfl rfl rfl (Or.inr ⟨_, _, _, _, rfl, vd_0, rfl⟩) (fun σ' h => u_95 p1 0 (by omega) (by omega) σ' h) (pc' := 989) rfl (fun y2 => ?_)
    refine G_ex (fun hy2 => ?_)
    refine T_op (st' := []) zk_191_989 rfl rfl (pc' := 990) rfl ?_
    refine T_ld zk_191_990 rfl rfl rfl (pc' := 991) rfl ?_
    refine T_ld zk_191_991 rfl rfl rfl (pc' := 992) rfl ?_
    refine T_ld zk_191_992 rfl rfl rfl (pc' := 993) rfl ?_
    refine T_op zk_191_993 rfl X_ic (pc' := 994) rfl ?_
    refine T_op zk_191_994 rfl X_add (pc' := 995) rfl ?_
    refine T_sld (n := n0) (w := p1) zk_191_995 hx (by omega) (by omega) (by omega) e1 (pc' := 996) rfl ?_
    refine T_ld zk_191_996 rfl rfl rfl (pc' := 997) rfl ?_
    refine T_ld zk_191_997 rfl rfl rfl (pc' := 998) rfl ?_
    refine T_op zk_191_998 rfl X_ic (pc' := 999) rfl ?_
    refine T_op zk_191_999 rfl X_add (pc' := 1000) rfl ?_
    refine T_sld (n := n0) (w := p2) zk_191_1000 hx (by omega) (by omega) (by omega) e2 (pc' := 1001) rfl ?_
    refine T_if_eq zk_191_1001 (by omega) (pc' := 1004) rfl (fun b3 => ?_) (fun b3 => ?_)
    ·
      refine T_op zk_191_1008 rfl X_ic (pc' := 1009) rfl ?_
      refine T_calli (K := fun y4 σ' => (True) ∧ JR σ') (r := []) zk_191_1009 rfl rfl rfl rfl rfl rfl (Or.inr ⟨_, _, _, _, rfl, vd_35, rfl⟩) (fun σ' h => u_158 p1 0 (by omega) (by omega) σ' h) (pc' := 1012) rfl (fun y4 => ?_)
      refine G_ex (fun hy4 => ?_)
      refine T_op (st' := []) zk_191_1012 rfl rfl (pc' := 1013) rfl ?_
      refine T_goto zk_191_1013 ?_
      refine T_iinc (L' := [(0, .ref 0), (1, av 0 0 0), (2, av 35 0 0), (3, iv (i + 6))]) zk_191_1610 (nL := 4) rfl rfl (show _ = some (iv i) from rfl) rfl (pc' := 1613) rfl ?_
      refine T_goto zk_191_1613 ?_
      exact hk
    · exfalso; omega
  ·
    refine T_op zk_191_981 rfl X_ic (pc' := 982) rfl ?_
    refine T_goto zk_191_982 ?_
    refine T_calli (K := fun y5 σ' => (True) ∧ JR σ') (r := []) zk_191_986 rfl rfl rfl rfl rfl rfl (Or.inr ⟨_, _, _, _, rfl, vd_0, rfl⟩) (fun σ' h => u_95 p1 1 (by omega) (by omega) σ' h) (pc' := 989) rfl (fun y5 => ?_)
    refine G_ex (fun hy5 => ?_)
    refine T_op (st' := []) zk_191_989 rfl rfl (pc' := 990) rfl ?_
    refine T_ld zk_191_990 rfl rfl rfl (pc' := 991) rfl ?_
    refine T_ld zk_191_991 rfl rfl rfl (pc' := 992) rfl ?_
    refine T_ld zk_191_992 rfl rfl rfl (pc' := 993) rfl ?_
    refine T_op zk_191_993 rfl X_ic (pc' := 994) rfl ?_
    refine T_op zk_191_994 rfl X_add (pc' := 995) rfl ?_
    refine T_sld (n := n0) (w := p1) zk_191_995 hx (by omega) (by omega) (by omega) e1 (pc' := 996) rfl ?_
    refine T_ld zk_191_996 rfl rfl rfl (pc' := 997) rfl ?_
    refine T_ld zk_191_997 rfl rfl rfl (pc' := 998) rfl ?_
    refine T_op zk_191_998 rfl X_ic (pc' := 999) rfl ?_
    refine T_op zk_191_999 rfl X_add (pc' := 1000) rfl ?_
    refine T_sld (n := n0) (w := p2) zk_191_1000 hx (by omega) (by omega) (by omega) e2 (pc' := 1001) rfl ?_
    refine T_if_eq zk_191_1001 (by omega) (pc' := 1004) rfl (fun b6 => ?_) (fun b6 => ?_)
    · exfalso; omega
    ·
      refine T_op zk_191_1004 rfl X_ic (pc' := 1005) rfl ?_
      refine T_goto zk_191_1005 ?_
      refine T_calli (K := fun y7 σ' => (True) ∧ JR σ') (r := []) zk_191_1009 rfl rfl rfl rfl rfl rfl (Or.inr ⟨_, _, _, _, rfl, vd_35, rfl⟩) (fun σ' h => u_158 p1 1 (by omega) (by omega) σ' h) (pc' := 1012) rfl (fun y7 => ?_)
      refine G_ex (fun hy7 => ?_)
      refine T_op (st' := []) zk_191_1012 rfl rfl (pc' := 1013) rfl ?_
      refine T_goto zk_191_1013 ?_
      refine T_iinc (L' := [(0, .ref 0), (1, av 0 0 0), (2, av 35 0 0), (3, iv (i + 6))]) zk_191_1610 (nL := 4) rfl rfl (show _ = some (iv i) from rfl) rfl (pc' := 1613) rfl ?_
      refine T_goto zk_191_1613 ?_
      exact hk
theorem zl_20 {xs : Nat × (Nat → Int32)} {n0 : Nat} (hx : xs.1 = n0 + 1) {Q : Option Value → ZS → Prop} (i : Int) (hi : 0 ≤ i ∧ i + 6 ≤ n0 ∧ n0 ≤ 3072) (p1 p2 p3 p4 p5 : Int) (h1 : -2147483648 ≤ p1 ∧ p1 ≤ 2147483647) (h2 : -2147483648 ≤ p2 ∧ p2 ≤ 2147483647) (h3 : -2147483648 ≤ p3 ∧ p3 ≤ 2147483647) (h4 : -2147483648 ≤ p4 ∧ p4 ≤ 2147483647) (h5 : -2147483648 ≤ p5 ∧ p5 ≤ 2147483647) (e1 : xs.2 (Int.toNat (i + 1)) = Int32.ofInt p1) (e2 : xs.2 (Int.toNat (i + 2)) = Int32.ofInt p2) (e3 : xs.2 (Int.toNat (i + 3)) = Int32.ofInt p3) (e4 : xs.2 (Int.toNat (i + 4)) = Int32.ofInt p4) (e5 : xs.2 (Int.toNat (i + 5)) = Int32.ofInt p5) (hk : TJ xs JR 120 191 18 [(0, .ref 0), (1, av 0 0 0), (2, av 35 0 0), (3, iv (i + 6))] [] Q) : TJ xs JR 120 191 1016 [(0, .ref 0), (1, av 0 0 0), (2, av 35 0 0), (3, iv i)] [] Q := by
  refine T_ld zk_191_1016 rfl rfl rfl (pc' := 1017) rfl ?_
  refine T_ld zk_191_1017 rfl rfl rfl (pc' := 1018) rfl ?_
  refine T_ld zk_191_1018 rfl rfl rfl (pc' := 1019) rfl ?_
  refine T_op zk_191_1019 rfl X_ic (pc' := 1020) rfl ?_
  refine T_op zk_191_1020 rfl X_add (pc' := 1021) rfl ?_
  refine T_sld (n := n0) (w := p1) zk_191_1021 hx (by omega) (by omega) (by omega) e1 (pc' := 1022) rfl ?_
  refine T_calli (K := fun y1 σ' => (True) ∧ JR σ') (r := []) zk_191_1022 rfl rfl rfl rfl rfl rfl (Or.inr ⟨_, _, _, _, rfl, vd_0, rfl⟩) (fun σ' h => u_96 p1 (by omega) σ' h) (pc' := 1025) rfl (fun y1 => ?_)
  refine G_ex (fun hy1 => ?_)
  refine T_op (st' := []) zk_191_1025 rfl rfl (pc' := 1026) rfl ?_
  refine T_ld zk_191_1026 rfl rfl rfl (pc' := 1027) rfl ?_
  refine T_ld zk_191_1027 rfl rfl rfl (pc' := 1028) rfl ?_
  refine T_ld zk_191_1028 rfl rfl rfl (pc' := 1029) rfl ?_
  refine T_op zk_191_1029 rfl X_ic (pc' := 1030) rfl ?_
  refine T_op zk_191_1030 rfl X_add (pc' := 1031) rfl ?_
  refine T_sld (n := n0) (w := p1) zk_191_1031 hx (by omega) (by omega) (by omega) e1 (pc' := 1032) rfl ?_
  refine T_calli (K := fun y2 σ' => (True) ∧ JR σ') (r := []) zk_191_1032 rfl rfl rfl rfl rfl rfl (Or.inr ⟨_, _, _, _, rfl, vd_35, rfl⟩) (fun σ' h => u_163 p1 (by omega) σ' h) (pc' := 1035) rfl (fun y2 => ?_)
  refine G_ex (fun hy2 => ?_)
  refine T_op (st' := []) zk_191_1035 rfl rfl (pc' := 1036) rfl ?_
  refine T_goto zk_191_1036 ?_
  refine T_iinc (L' := [(0, .ref 0), (1, av 0 0 0), (2, av 35 0 0), (3, iv (i + 6))]) zk_191_1610 (nL := 4) rfl rfl (show _ = some (iv i) from rfl) rfl (pc' := 1613) rfl ?_
  refine T_goto zk_191_1613 ?_
  exact hk
theorem zl_21 {xs : Nat × (Nat → Int32)} {n0 : Nat} (hx : xs.1 = n0 + 1) {Q : Option Value → ZS → Prop} (i : Int) (hi : 0 ≤ i ∧ i + 6 ≤ n0 ∧ n0 ≤ 3072) (p1 p2 p3 p4 p5 : Int) (h1 : -2147483648 ≤ p1 ∧ p1 ≤ 2147483647) (h2 : -2147483648 ≤ p2 ∧ p2 ≤ 2147483647) (h3 : -2147483648 ≤ p3 ∧ p3 ≤ 2147483647) (h4 : -2147483648 ≤ p4 ∧ p4 ≤ 2147483647) (h5 : -2147483648 ≤ p5 ∧ p5 ≤ 2147483647) (e1 : xs.2 (Int.toNat (i + 1)) = Int32.ofInt p1) (e2 : xs.2 (Int.toNat (i + 2)) = Int32.ofInt p2) (e3 : xs.2 (Int.toNat (i + 3)) = Int32.ofInt p3) (e4 : xs.2 (Int.toNat (i + 4)) = Int32.ofInt p4) (e5 : xs.2 (Int.toNat (i + 5)) = Int32.ofInt p5) (hk : TJ xs JR 120 191 18 [(0, .ref 0), (1, av 0 0 0), (2, av 35 0 0), (3, iv (i + 6))] [] Q) : TJ xs JR 120 191 1039 [(0, .ref 0), (1, av 0 0 0), (2, av 35 0 0), (3, iv i)] [] Q := by
  refine T_ld zk_191_1039 rfl rfl rfl (pc' := 1040) rfl ?_
  refine T_ld zk_191_1040 rfl rfl rfl (pc' := 1041) rfl ?_
  refine T_ld zk_191_1041 rfl rfl rfl (pc' := 1042) rfl ?_
  refine T_op zk_191_1042 rfl X_ic (pc' := 1043) rfl ?_
  refine T_op zk_191_1043 rfl X_add (pc' := 1044) rfl ?_
  refine T_sld (n := n0) (w := p1) zk_191_1044 hx (by omega) (by omega) (by omega) e1 (pc' := 1045) rfl ?_
  refine T_ld zk_191_1045 rfl rfl rfl (pc' := 1046) rfl ?_
  refine T_ld zk_191_1046 rfl rfl rfl (pc' := 1047) rfl ?_
  refine T_op zk_191_1047 rfl X_ic (pc' := 1048) rfl ?_
  refine T_op zk_191_1048 rfl X_add (pc' := 1049) rfl ?_
  refine T_sld (n := n0) (w := p2) zk_191_1049 hx (by omega) (by omega) (by omega) e2 (pc' := 1050) rfl ?_
  refine T_ld zk_191_1050 rfl rfl rfl (pc' := 1051) rfl ?_
  refine T_ld zk_191_1051 rfl rfl rfl (pc' := 1052) rfl ?_
  refine T_op zk_191_1052 rfl X_ic (pc' := 1053) rfl ?_
  refine T_op zk_191_1053 rfl X_add (pc' := 1054) rfl ?_
  refine T_sld (n := n0) (w := p3) zk_191_1054 hx (by omega) (by omega) (by omega) e3 (pc' := 1055) rfl ?_
  refine T_ld zk_191_1055 rfl rfl rfl (pc' := 1056) rfl ?_
  refine T_ld zk_191_1056 rfl rfl rfl (pc' := 1057) rfl ?_
  refine T_op zk_191_1057 rfl X_ic (pc' := 1058) rfl ?_
  refine T_op zk_191_1058 rfl X_add (pc' := 1059) rfl ?_
  refine T_sld (n := n0) (w := p4) zk_191_1059 hx (by omega) (by omega) (by omega) e4 (pc' := 1060) rfl ?_
  refine T_ld zk_191_1060 rfl rfl rfl (pc' := 1061) rfl ?_
  refine T_ld zk_191_1061 rfl rfl rfl (pc' := 1062) rfl ?_
  refine T_op zk_191_1062 rfl X_ic (pc' := 1063) rfl ?_
  refine T_op zk_191_1063 rfl X_add (pc' := 1064) rfl ?_
  refine T_sld (n := n0) (w := p5) zk_191_1064 hx (by omega) (by omega) (by omega) e5 (pc' := 1065) rfl ?_
  refine T_calli (K := fun y1 σ' => PX_21 p1 p2 p3 p4 p5 y1 σ') (r := []) zk_191_1065 rfl rfl rfl rfl rfl rfl (Or.inr ⟨_, _, _, _, rfl, vd_0, rfl⟩) (fun σ' h => ux_21 p1 p2 p3 p4 p5 (by omega) (by omega) (by omega) (by omega) (by omega) σ' h) (pc' := 1068) rfl (fun y1 => ?_)
  refine T_op (st' := []) zk_191_1068 rfl rfl (pc' := 1069) rfl ?_
  refine T_ld zk_191_1069 rfl rfl rfl (pc' := 1070) rfl ?_
  refine T_ld zk_191_1070 rfl rfl rfl (pc' := 1071) rfl ?_
  refine T_ld zk_191_1071 rfl rfl rfl (pc' := 1072) rfl ?_
  refine T_op zk_191_1072 rfl X_ic (pc' := 1073) rfl ?_
  refine T_op zk_191_1073 rfl X_add (pc' := 1074) rfl ?_
  refine T_sld (n := n0) (w := p1) zk_191_1074 hx (by omega) (by omega) (by omega) e1 (pc' := 1075) rfl ?_
  refine T_ld zk_191_1075 rfl rfl rfl (pc' := 1076) rfl ?_
  refine T_ld zk_191_1076 rfl rfl rfl (pc' := 1077) rfl ?_
  refine T_op zk_191_1077 rfl X_ic (pc' := 1078) rfl ?_
  refine T_op zk_191_1078 rfl X_add (pc' := 1079) rfl ?_
  refine T_sld (n := n0) (w := p2) zk_191_1079 hx (by omega) (by omega) (by omega) e2 (pc' := 1080) rfl ?_
  refine T_ld zk_191_1080 rfl rfl rfl (pc' := 1081) rfl ?_
  refine T_ld zk_191_1081 rfl rfl rfl (pc' := 1082) rfl ?_
  refine T_op zk_191_1082 rfl X_ic (pc' := 1083) rfl ?_
  refine T_op zk_191_1083 rfl X_add (pc' := 1084) rfl ?_
  refine T_sld (n := n0) (w := p3) zk_191_1084 hx (by omega) (by omega) (by omega) e3 (pc' := 1085) rfl ?_
  refine T_ld zk_191_1085 rfl rfl rfl (pc' := 1086) rfl ?_
  refine T_ld zk_191_1086 rfl rfl rfl (pc' := 1087) rfl ?_
  refine T_op zk_191_1087 rfl X_ic (pc' := 1088) rfl ?_
  refine T_op zk_191_1088 rfl X_add (pc' := 1089) rfl ?_
  refine T_sld (n := n0) (w := p4) zk_191_1089 hx (by omega) (by omega) (by omega) e4 (pc' := 1090) rfl ?_
  refine T_ld zk_191_1090 rfl rfl rfl (pc' := 1091) rfl ?_
  refine T_ld zk_191_1091 rfl rfl rfl (pc' := 1092) rfl ?_
  refine T_op zk_191_1092 rfl X_ic (pc' := 1093) rfl ?_
  refine T_op zk_191_1093 rfl X_add (pc' := 1094) rfl ?_
  refine T_sld (n := n0) (w := p5) zk_191_1094 hx (by omega) (by omega) (by omega) e5 (pc' := 1095) rfl ?_
  refine T_calli (K := fun y2 σ' => (y1 = y2) ∧ JR σ') (r := []) zk_191_1095 rfl rfl rfl rfl rfl rfl (Or.inr ⟨_, _, _, _, rfl, vd_35, rfl⟩) (fun σ' h => um_21 p1 p2 p3 p4 p5 (by omega) (by omega) (by omega) (by omega) (by omega) y1 σ' h) (pc' := 1098) rfl (fun y2 => ?_)
  refine G_ex (fun hy2 => ?_)
  refine T_op (st' := []) zk_191_1098 rfl rfl (pc' := 1099) rfl ?_
  refine T_goto zk_191_1099 ?_
  refine T_iinc (L' := [(0, .ref 0), (1, av 0 0 0), (2, av 35 0 0), (3, iv (i + 6))]) zk_191_1610 (nL := 4) rfl rfl (show _ = some (iv i) from rfl) rfl (pc' := 1613) rfl ?_
  refine T_goto zk_191_1613 ?_
  exact hk
theorem zl_22 {xs : Nat × (Nat → Int32)} {n0 : Nat} (hx : xs.1 = n0 + 1) {Q : Option Value → ZS → Prop} (i : Int) (hi : 0 ≤ i ∧ i + 6 ≤ n0 ∧ n0 ≤ 3072) (p1 p2 p3 p4 p5 : Int) (h1 : -2147483648 ≤ p1 ∧ p1 ≤ 2147483647) (h2 : -2147483648 ≤ p2 ∧ p2 ≤ 2147483647) (h3 : -2147483648 ≤ p3 ∧ p3 ≤ 2147483647) (h4 : -2147483648 ≤ p4 ∧ p4 ≤ 2147483647) (h5 : -2147483648 ≤ p5 ∧ p5 ≤ 2147483647) (e1 : xs.2 (Int.toNat (i + 1)) = Int32.ofInt p1) (e2 : xs.2 (Int.toNat (i + 2)) = Int32.ofInt p2) (e3 : xs.2 (Int.toNat (i + 3)) = Int32.ofInt p3) (e4 : xs.2 (Int.toNat (i + 4)) = Int32.ofInt p4) (e5 : xs.2 (Int.toNat (i + 5)) = Int32.ofInt p5) (hk : TJ xs JR 120 191 18 [(0, .ref 0), (1, av 0 0 0), (2, av 35 0 0), (3, iv (i + 6))] [] Q) : TJ xs JR 120 191 1102 [(0, .ref 0), (1, av 0 0 0), (2, av 35 0 0), (3, iv i)] [] Q := by
  refine T_ld zk_191_1102 rfl rfl rfl (pc' := 1103) rfl ?_
  refine T_ld zk_191_1103 rfl rfl rfl (pc' := 1104) rfl ?_
  refine T_ld zk_191_1104 rfl rfl rfl (pc' := 1105) rfl ?_
  refine T_op zk_191_1105 rfl X_ic (pc' := 1106) rfl ?_
  refine T_op zk_191_1106 rfl X_add (pc' := 1107) rfl ?_
  refine T_sld (n := n0) (w := p1) zk_191_1107 hx (by omega) (by omega) (by omega) e1 (pc' := 1108) rfl ?_
  refine T_ld zk_191_1108 rfl rfl rfl (pc' := 1109) rfl ?_
  refine T_ld zk_191_1109 rfl rfl rfl (pc' := 1110) rfl ?_
  refine T_op zk_191_1110 rfl X_ic (pc' := 1111) rfl ?_
  refine T_op zk_191_1111 rfl X_add (pc' := 1112) rfl ?_
  refine T_sld (n := n0) (w := p2) zk_191_1112 hx (by omega) (by omega) (by omega) e2 (pc' := 1113) rfl ?_
  refine T_calli (K := fun y1 σ' => (True) ∧ JR σ') (r := []) zk_191_1113 rfl rfl rfl rfl rfl rfl (Or.inr ⟨_, _, _, _, rfl, vd_0, rfl⟩) (fun σ' h => u_99 p1 p2 (by omega) (by omega) σ' h) (pc' := 1116) rfl (fun y1 => ?_)
  refine G_ex (fun hy1 => ?_)
  refine T_op (st' := []) zk_191_1116 rfl rfl (pc' := 1117) rfl ?_
  refine T_ld zk_191_1117 rfl rfl rfl (pc' := 1118) rfl ?_
  refine T_ld zk_191_1118 rfl rfl rfl (pc' := 1119) rfl ?_
  refine T_ld zk_191_1119 rfl rfl rfl (pc' := 1120) rfl ?_
  refine T_op zk_191_1120 rfl X_ic (pc' := 1121) rfl ?_
  refine T_op zk_191_1121 rfl X_add (pc' := 1122) rfl ?_
  refine T_sld (n := n0) (w := p1) zk_191_1122 hx (by omega) (by omega) (by omega) e1 (pc' := 1123) rfl ?_
  refine T_ld zk_191_1123 rfl rfl rfl (pc' := 1124) rfl ?_
  refine T_ld zk_191_1124 rfl rfl rfl (pc' := 1125) rfl ?_
  refine T_op zk_191_1125 rfl X_ic (pc' := 1126) rfl ?_
  refine T_op zk_191_1126 rfl X_add (pc' := 1127) rfl ?_
  refine T_sld (n := n0) (w := p2) zk_191_1127 hx (by omega) (by omega) (by omega) e2 (pc' := 1128) rfl ?_
  refine T_calli (K := fun y2 σ' => (True) ∧ JR σ') (r := []) zk_191_1128 rfl rfl rfl rfl rfl rfl (Or.inr ⟨_, _, _, _, rfl, vd_35, rfl⟩) (fun σ' h => u_165 p1 p2 (by omega) (by omega) σ' h) (pc' := 1131) rfl (fun y2 => ?_)
  refine G_ex (fun hy2 => ?_)
  refine T_op (st' := []) zk_191_1131 rfl rfl (pc' := 1132) rfl ?_
  refine T_goto zk_191_1132 ?_
  refine T_iinc (L' := [(0, .ref 0), (1, av 0 0 0), (2, av 35 0 0), (3, iv (i + 6))]) zk_191_1610 (nL := 4) rfl rfl (show _ = some (iv i) from rfl) rfl (pc' := 1613) rfl ?_
  refine T_goto zk_191_1613 ?_
  exact hk
theorem zl_23 {xs : Nat × (Nat → Int32)} {n0 : Nat} (hx : xs.1 = n0 + 1) {Q : Option Value → ZS → Prop} (i : Int) (hi : 0 ≤ i ∧ i + 6 ≤ n0 ∧ n0 ≤ 3072) (p1 p2 p3 p4 p5 : Int) (h1 : -2147483648 ≤ p1 ∧ p1 ≤ 2147483647) (h2 : -2147483648 ≤ p2 ∧ p2 ≤ 2147483647) (h3 : -2147483648 ≤ p3 ∧ p3 ≤ 2147483647) (h4 : -2147483648 ≤ p4 ∧ p4 ≤ 2147483647) (h5 : -2147483648 ≤ p5 ∧ p5 ≤ 2147483647) (e1 : xs.2 (Int.toNat (i + 1)) = Int32.ofInt p1) (e2 : xs.2 (Int.toNat (i + 2)) = Int32.ofInt p2) (e3 : xs.2 (Int.toNat (i + 3)) = Int32.ofInt p3) (e4 : xs.2 (Int.toNat (i + 4)) = Int32.ofInt p4) (e5 : xs.2 (Int.toNat (i + 5)) = Int32.ofInt p5) (hk : TJ xs JR 120 191 18 [(0, .ref 0), (1, av 0 0 0), (2, av 35 0 0), (3, iv (i + 6))] [] Q) : TJ xs JR 120 191 1135 [(0, .ref 0), (1, av 0 0 0), (2, av 35 0 0), (3, iv i)] [] Q := by
  refine T_ld zk_191_1135 rfl rfl rfl (pc' := 1136) rfl ?_
  refine T_ld zk_191_1136 rfl rfl rfl (pc' := 1137) rfl ?_
  refine T_ld zk_191_1137 rfl rfl rfl (pc' := 1138) rfl ?_
  refine T_op zk_191_1138 rfl X_ic (pc' := 1139) rfl ?_
  refine T_op zk_191_1139 rfl X_add (pc' := 1140) rfl ?_
  refine T_sld (n := n0) (w := p1) zk_191_1140 hx (by omega) (by omega) (by omega) e1 (pc' := 1141) rfl ?_
  refine T_ld zk_191_1141 rfl rfl rfl (pc' := 1142) rfl ?_
  refine T_ld zk_191_1142 rfl rfl rfl (pc' := 1143) rfl ?_
  refine T_op zk_191_1143 rfl X_ic (pc' := 1144) rfl ?_
  refine T_op zk_191_1144 rfl X_add (pc' := 1145) rfl ?_
  refine T_sld (n := n0) (w := p2) zk_191_1145 hx (by omega) (by omega) (by omega) e2 (pc' := 1146) rfl ?_
  refine T_calli (K := fun y1 σ' => (True) ∧ JR σ') (r := []) zk_191_1146 rfl rfl rfl rfl rfl rfl (Or.inr ⟨_, _, _, _, rfl, vd_0, rfl⟩) (fun σ' h => u_100 p1 p2 (by omega) (by omega) σ' h) (pc' := 1149) rfl (fun y1 => ?_)
  refine G_ex (fun hy1 => ?_)
  refine T_op (st' := []) zk_191_1149 rfl rfl (pc' := 1150) rfl ?_
  refine T_ld zk_191_1150 rfl rfl rfl (pc' := 1151) rfl ?_
  refine T_ld zk_191_1151 rfl rfl rfl (pc' := 1152) rfl ?_
  refine T_ld zk_191_1152 rfl rfl rfl (pc' := 1153) rfl ?_
  refine T_op zk_191_1153 rfl X_ic (pc' := 1154) rfl ?_
  refine T_op zk_191_1154 rfl X_add (pc' := 1155) rfl ?_
  refine T_sld (n := n0) (w := p1) zk_191_1155 hx (by omega) (by omega) (by omega) e1 (pc' := 1156) rfl ?_
  refine T_ld zk_191_1156 rfl rfl rfl (pc' := 1157) rfl ?_
  refine T_ld zk_191_1157 rfl rfl rfl (pc' := 1158) rfl ?_
  refine T_op zk_191_1158 rfl X_ic (pc' := 1159) rfl ?_
  refine T_op zk_191_1159 rfl X_add (pc' := 1160) rfl ?_
  refine T_sld (n := n0) (w := p2) zk_191_1160 hx (by omega) (by omega) (by omega) e2 (pc' := 1161) rfl ?_
  refine T_calli (K := fun y2 σ' => (True) ∧ JR σ') (r := []) zk_191_1161 rfl rfl rfl rfl rfl rfl (Or.inr ⟨_, _, _, _, rfl, vd_35, rfl⟩) (fun σ' h => u_166 p1 p2 (by omega) (by omega) σ' h) (pc' := 1164) rfl (fun y2 => ?_)
  refine G_ex (fun hy2 => ?_)
  refine T_op (st' := []) zk_191_1164 rfl rfl (pc' := 1165) rfl ?_
  refine T_goto zk_191_1165 ?_
  refine T_iinc (L' := [(0, .ref 0), (1, av 0 0 0), (2, av 35 0 0), (3, iv (i + 6))]) zk_191_1610 (nL := 4) rfl rfl (show _ = some (iv i) from rfl) rfl (pc' := 1613) rfl ?_
  refine T_goto zk_191_1613 ?_
  exact hk
theorem zl_24 {xs : Nat × (Nat → Int32)} {n0 : Nat} (hx : xs.1 = n0 + 1) {Q : Option Value → ZS → Prop} (i : Int) (hi : 0 ≤ i ∧ i + 6 ≤ n0 ∧ n0 ≤ 3072) (p1 p2 p3 p4 p5 : Int) (h1 : -2147483648 ≤ p1 ∧ p1 ≤ 2147483647) (h2 : -2147483648 ≤ p2 ∧ p2 ≤ 2147483647) (h3 : -2147483648 ≤ p3 ∧ p3 ≤ 2147483647) (h4 : -2147483648 ≤ p4 ∧ p4 ≤ 2147483647) (h5 : -2147483648 ≤ p5 ∧ p5 ≤ 2147483647) (e1 : xs.2 (Int.toNat (i + 1)) = Int32.ofInt p1) (e2 : xs.2 (Int.toNat (i + 2)) = Int32.ofInt p2) (e3 : xs.2 (Int.toNat (i + 3)) = Int32.ofInt p3) (e4 : xs.2 (Int.toNat (i + 4)) = Int32.ofInt p4) (e5 : xs.2 (Int.toNat (i + 5)) = Int32.ofInt p5) (hk : TJ xs JR 120 191 18 [(0, .ref 0), (1, av 0 0 0), (2, av 35 0 0), (3, iv (i + 6))] [] Q) : TJ xs JR 120 191 1168 [(0, .ref 0), (1, av 0 0 0), (2, av 35 0 0), (3, iv i)] [] Q := by
  refine T_ld zk_191_1168 rfl rfl rfl (pc' := 1169) rfl ?_
  refine T_ld zk_191_1169 rfl rfl rfl (pc' := 1170) rfl ?_
  refine T_ld zk_191_1170 rfl rfl rfl (pc' := 1171) rfl ?_
  refine T_op zk_191_1171 rfl X_ic (pc' := 1172) rfl ?_
  refine T_op zk_191_1172 rfl X_add (pc' := 1173) rfl ?_
  refine T_sld (n := n0) (w := p1) zk_191_1173 hx (by omega) (by omega) (by omega) e1 (pc' := 1174) rfl ?_
  refine T_ld zk_191_1174 rfl rfl rfl (pc' := 1175) rfl ?_
  refine T_ld zk_191_1175 rfl rfl rfl (pc' := 1176) rfl ?_
  refine T_op zk_191_1176 rfl X_ic (pc' := 1177) rfl ?_
  refine T_op zk_191_1177 rfl X_add (pc' := 1178) rfl ?_
  refine T_sld (n := n0) (w := p2) zk_191_1178 hx (by omega) (by omega) (by omega) e2 (pc' := 1179) rfl ?_
  refine T_ld zk_191_1179 rfl rfl rfl (pc' := 1180) rfl ?_
  refine T_ld zk_191_1180 rfl rfl rfl (pc' := 1181) rfl ?_
  refine T_op zk_191_1181 rfl X_ic (pc' := 1182) rfl ?_
  refine T_op zk_191_1182 rfl X_add (pc' := 1183) rfl ?_
  refine T_sld (n := n0) (w := p3) zk_191_1183 hx (by omega) (by omega) (by omega) e3 (pc' := 1184) rfl ?_
  refine T_ld zk_191_1184 rfl rfl rfl (pc' := 1185) rfl ?_
  refine T_ld zk_191_1185 rfl rfl rfl (pc' := 1186) rfl ?_
  refine T_op zk_191_1186 rfl X_ic (pc' := 1187) rfl ?_
  refine T_op zk_191_1187 rfl X_add (pc' := 1188) rfl ?_
  refine T_sld (n := n0) (w := p4) zk_191_1188 hx (by omega) (by omega) (by omega) e4 (pc' := 1189) rfl ?_
  refine T_ld zk_191_1189 rfl rfl rfl (pc' := 1190) rfl ?_
  refine T_ld zk_191_1190 rfl rfl rfl (pc' := 1191) rfl ?_
  refine T_op zk_191_1191 rfl X_ic (pc' := 1192) rfl ?_
  refine T_op zk_191_1192 rfl X_add (pc' := 1193) rfl ?_
  refine T_sld (n := n0) (w := p5) zk_191_1193 hx (by omega) (by omega) (by omega) e5 (pc' := 1194) rfl ?_
  refine T_calli (K := fun y1 σ' => (True) ∧ JR σ') (r := []) zk_191_1194 rfl rfl rfl rfl rfl rfl (Or.inr ⟨_, _, _, _, rfl, vd_0, rfl⟩) (fun σ' h => u_101 p1 p2 p3 p4 p5 (by omega) (by omega) (by omega) (by omega) (by omega) σ' h) (pc' := 1197) rfl (fun y1 => ?_)
  refine G_ex (fun hy1 => ?_)
  refine T_op (st' := []) zk_191_1197 rfl rfl (pc' := 1198) rfl ?_
  refine T_ld zk_191_1198 rfl rfl rfl (pc' := 1199) rfl ?_
  refine T_ld zk_191_1199 rfl rfl rfl (pc' := 1200) rfl ?_
  refine T_ld zk_191_1200 rfl rfl rfl (pc' := 1201) rfl ?_
  refine T_op zk_191_1201 rfl X_ic (pc' := 1202) rfl ?_
  refine T_op zk_191_1202 rfl X_add (pc' := 1203) rfl ?_
  refine T_sld (n := n0) (w := p1) zk_191_1203 hx (by omega) (by omega) (by omega) e1 (pc' := 1204) rfl ?_
  refine T_ld zk_191_1204 rfl rfl rfl (pc' := 1205) rfl ?_
  refine T_ld zk_191_1205 rfl rfl rfl (pc' := 1206) rfl ?_
  refine T_op zk_191_1206 rfl X_ic (pc' := 1207) rfl ?_
  refine T_op zk_191_1207 rfl X_add (pc' := 1208) rfl ?_
  refine T_sld (n := n0) (w := p2) zk_191_1208 hx (by omega) (by omega) (by omega) e2 (pc' := 1209) rfl ?_
  refine T_ld zk_191_1209 rfl rfl rfl (pc' := 1210) rfl ?_
  refine T_ld zk_191_1210 rfl rfl rfl (pc' := 1211) rfl ?_
  refine T_op zk_191_1211 rfl X_ic (pc' := 1212) rfl ?_
  refine T_op zk_191_1212 rfl X_add (pc' := 1213) rfl ?_
  refine T_sld (n := n0) (w := p3) zk_191_1213 hx (by omega) (by omega) (by omega) e3 (pc' := 1214) rfl ?_
  refine T_ld zk_191_1214 rfl rfl rfl (pc' := 1215) rfl ?_
  refine T_ld zk_191_1215 rfl rfl rfl (pc' := 1216) rfl ?_
  refine T_op zk_191_1216 rfl X_ic (pc' := 1217) rfl ?_
  refine T_op zk_191_1217 rfl X_add (pc' := 1218) rfl ?_
  refine T_sld (n := n0) (w := p4) zk_191_1218 hx (by omega) (by omega) (by omega) e4 (pc' := 1219) rfl ?_
  refine T_ld zk_191_1219 rfl rfl rfl (pc' := 1220) rfl ?_
  refine T_ld zk_191_1220 rfl rfl rfl (pc' := 1221) rfl ?_
  refine T_op zk_191_1221 rfl X_ic (pc' := 1222) rfl ?_
  refine T_op zk_191_1222 rfl X_add (pc' := 1223) rfl ?_
  refine T_sld (n := n0) (w := p5) zk_191_1223 hx (by omega) (by omega) (by omega) e5 (pc' := 1224) rfl ?_
  refine T_calli (K := fun y2 σ' => (True) ∧ JR σ') (r := []) zk_191_1224 rfl rfl rfl rfl rfl rfl (Or.inr ⟨_, _, _, _, rfl, vd_35, rfl⟩) (fun σ' h => u_168 p1 p2 p3 p4 p5 (by omega) (by omega) (by omega) (by omega) (by omega) σ' h) (pc' := 1227) rfl (fun y2 => ?_)
  refine G_ex (fun hy2 => ?_)
  refine T_op (st' := []) zk_191_1227 rfl rfl (pc' := 1228) rfl ?_
  refine T_goto zk_191_1228 ?_
  refine T_iinc (L' := [(0, .ref 0), (1, av 0 0 0), (2, av 35 0 0), (3, iv (i + 6))]) zk_191_1610 (nL := 4) rfl rfl (show _ = some (iv i) from rfl) rfl (pc' := 1613) rfl ?_
  refine T_goto zk_191_1613 ?_
  exact hk
theorem zl_25 {xs : Nat × (Nat → Int32)} {n0 : Nat} (hx : xs.1 = n0 + 1) {Q : Option Value → ZS → Prop} (i : Int) (hi : 0 ≤ i ∧ i + 6 ≤ n0 ∧ n0 ≤ 3072) (p1 p2 p3 p4 p5 : Int) (h1 : -2147483648 ≤ p1 ∧ p1 ≤ 2147483647) (h2 : -2147483648 ≤ p2 ∧ p2 ≤ 2147483647) (h3 : -2147483648 ≤ p3 ∧ p3 ≤ 2147483647) (h4 : -2147483648 ≤ p4 ∧ p4 ≤ 2147483647) (h5 : -2147483648 ≤ p5 ∧ p5 ≤ 2147483647) (e1 : xs.2 (Int.toNat (i + 1)) = Int32.ofInt p1) (e2 : xs.2 (Int.toNat (i + 2)) = Int32.ofInt p2) (e3 : xs.2 (Int.toNat (i + 3)) = Int32.ofInt p3) (e4 : xs.2 (Int.toNat (i + 4)) = Int32.ofInt p4) (e5 : xs.2 (Int.toNat (i + 5)) = Int32.ofInt p5) (hk : TJ xs JR 120 191 18 [(0, .ref 0), (1, av 0 0 0), (2, av 35 0 0), (3, iv (i + 6))] [] Q) : TJ xs JR 120 191 1231 [(0, .ref 0), (1, av 0 0 0), (2, av 35 0 0), (3, iv i)] [] Q := by
  refine T_ld zk_191_1231 rfl rfl rfl (pc' := 1232) rfl ?_
  refine T_ld zk_191_1232 rfl rfl rfl (pc' := 1233) rfl ?_
  refine T_ld zk_191_1233 rfl rfl rfl (pc' := 1234) rfl ?_
  refine T_op zk_191_1234 rfl X_ic (pc' := 1235) rfl ?_
  refine T_op zk_191_1235 rfl X_add (pc' := 1236) rfl ?_
  refine T_sld (n := n0) (w := p1) zk_191_1236 hx (by omega) (by omega) (by omega) e1 (pc' := 1237) rfl ?_
  refine T_ld zk_191_1237 rfl rfl rfl (pc' := 1238) rfl ?_
  refine T_ld zk_191_1238 rfl rfl rfl (pc' := 1239) rfl ?_
  refine T_op zk_191_1239 rfl X_ic (pc' := 1240) rfl ?_
  refine T_op zk_191_1240 rfl X_add (pc' := 1241) rfl ?_
  refine T_sld (n := n0) (w := p2) zk_191_1241 hx (by omega) (by omega) (by omega) e2 (pc' := 1242) rfl ?_
  refine T_calli (K := fun y1 σ' => (True) ∧ JR σ') (r := []) zk_191_1242 rfl rfl rfl rfl rfl rfl (Or.inr ⟨_, _, _, _, rfl, vd_0, rfl⟩) (fun σ' h => u_102 p1 p2 (by omega) (by omega) σ' h) (pc' := 1245) rfl (fun y1 => ?_)
  refine G_ex (fun hy1 => ?_)
  refine T_op (st' := []) zk_191_1245 rfl rfl (pc' := 1246) rfl ?_
  refine T_ld zk_191_1246 rfl rfl rfl (pc' := 1247) rfl ?_
  refine T_ld zk_191_1247 rfl rfl rfl (pc' := 1248) rfl ?_
  refine T_ld zk_191_1248 rfl rfl rfl (pc' := 1249) rfl ?_
  refine T_op zk_191_1249 rfl X_ic (pc' := 1250) rfl ?_
  refine T_op zk_191_1250 rfl X_add (pc' := 1251) rfl ?_
  refine T_sld (n := n0) (w := p1) zk_191_1251 hx (by omega) (by omega) (by omega) e1 (pc' := 1252) rfl ?_
  refine T_ld zk_191_1252 rfl rfl rfl (pc' := 1253) rfl ?_
  refine T_ld zk_191_1253 rfl rfl rfl (pc' := 1254) rfl ?_
  refine T_op zk_191_1254 rfl X_ic (pc' := 1255) rfl ?_
  refine T_op zk_191_1255 rfl X_add (pc' := 1256) rfl ?_
  refine T_sld (n := n0) (w := p2) zk_191_1256 hx (by omega) (by omega) (by omega) e2 (pc' := 1257) rfl ?_
  refine T_calli (K := fun y2 σ' => (True) ∧ JR σ') (r := []) zk_191_1257 rfl rfl rfl rfl rfl rfl (Or.inr ⟨_, _, _, _, rfl, vd_35, rfl⟩) (fun σ' h => u_169 p1 p2 (by omega) (by omega) σ' h) (pc' := 1260) rfl (fun y2 => ?_)
  refine G_ex (fun hy2 => ?_)
  refine T_op (st' := []) zk_191_1260 rfl rfl (pc' := 1261) rfl ?_
  refine T_goto zk_191_1261 ?_
  refine T_iinc (L' := [(0, .ref 0), (1, av 0 0 0), (2, av 35 0 0), (3, iv (i + 6))]) zk_191_1610 (nL := 4) rfl rfl (show _ = some (iv i) from rfl) rfl (pc' := 1613) rfl ?_
  refine T_goto zk_191_1613 ?_
  exact hk
theorem zl_26 {xs : Nat × (Nat → Int32)} {n0 : Nat} (hx : xs.1 = n0 + 1) {Q : Option Value → ZS → Prop} (i : Int) (hi : 0 ≤ i ∧ i + 6 ≤ n0 ∧ n0 ≤ 3072) (p1 p2 p3 p4 p5 : Int) (h1 : -2147483648 ≤ p1 ∧ p1 ≤ 2147483647) (h2 : -2147483648 ≤ p2 ∧ p2 ≤ 2147483647) (h3 : -2147483648 ≤ p3 ∧ p3 ≤ 2147483647) (h4 : -2147483648 ≤ p4 ∧ p4 ≤ 2147483647) (h5 : -2147483648 ≤ p5 ∧ p5 ≤ 2147483647) (e1 : xs.2 (Int.toNat (i + 1)) = Int32.ofInt p1) (e2 : xs.2 (Int.toNat (i + 2)) = Int32.ofInt p2) (e3 : xs.2 (Int.toNat (i + 3)) = Int32.ofInt p3) (e4 : xs.2 (Int.toNat (i + 4)) = Int32.ofInt p4) (e5 : xs.2 (Int.toNat (i + 5)) = Int32.ofInt p5) (hk : TJ xs JR 120 191 18 [(0, .ref 0), (1, av 0 0 0), (2, av 35 0 0), (3, iv (i + 6))] [] Q) : TJ xs JR 120 191 1264 [(0, .ref 0), (1, av 0 0 0), (2, av 35 0 0), (3, iv i)] [] Q := by
  refine T_ld zk_191_1264 rfl rfl rfl (pc' := 1265) rfl ?_
  refine T_ld zk_191_1265 rfl rfl rfl (pc' := 1266) rfl ?_
  refine T_ld zk_191_1266 rfl rfl rfl (pc' := 1267) rfl ?_
  refine T_op zk_191_1267 rfl X_ic (pc' := 1268) rfl ?_
  refine T_op zk_191_1268 rfl X_add (pc' := 1269) rfl ?_
  refine T_sld (n := n0) (w := p1) zk_191_1269 hx (by omega) (by omega) (by omega) e1 (pc' := 1270) rfl ?_
  refine T_calli (K := fun y1 σ' => (True) ∧ JR σ') (r := []) zk_191_1270 rfl rfl rfl rfl rfl rfl (Or.inr ⟨_, _, _, _, rfl, vd_0, rfl⟩) (fun σ' h => u_103 p1 (by omega) σ' h) (pc' := 1273) rfl (fun y1 => ?_)
  refine G_ex (fun hy1 => ?_)
  refine T_op (st' := []) zk_191_1273 rfl rfl (pc' := 1274) rfl ?_
  refine T_ld zk_191_1274 rfl rfl rfl (pc' := 1275) rfl ?_
  refine T_ld zk_191_1275 rfl rfl rfl (pc' := 1276) rfl ?_
  refine T_ld zk_191_1276 rfl rfl rfl (pc' := 1277) rfl ?_
  refine T_op zk_191_1277 rfl X_ic (pc' := 1278) rfl ?_
  refine T_op zk_191_1278 rfl X_add (pc' := 1279) rfl ?_
  refine T_sld (n := n0) (w := p1) zk_191_1279 hx (by omega) (by omega) (by omega) e1 (pc' := 1280) rfl ?_
  refine T_calli (K := fun y2 σ' => (True) ∧ JR σ') (r := []) zk_191_1280 rfl rfl rfl rfl rfl rfl (Or.inr ⟨_, _, _, _, rfl, vd_35, rfl⟩) (fun σ' h => u_173 p1 (by omega) σ' h) (pc' := 1283) rfl (fun y2 => ?_)
  refine G_ex (fun hy2 => ?_)
  refine T_op (st' := []) zk_191_1283 rfl rfl (pc' := 1284) rfl ?_
  refine T_goto zk_191_1284 ?_
  refine T_iinc (L' := [(0, .ref 0), (1, av 0 0 0), (2, av 35 0 0), (3, iv (i + 6))]) zk_191_1610 (nL := 4) rfl rfl (show _ = some (iv i) from rfl) rfl (pc' := 1613) rfl ?_
  refine T_goto zk_191_1613 ?_
  exact hk
theorem zl_27 {xs : Nat × (Nat → Int32)} {n0 : Nat} (hx : xs.1 = n0 + 1) {Q : Option Value → ZS → Prop} (i : Int) (hi : 0 ≤ i ∧ i + 6 ≤ n0 ∧ n0 ≤ 3072) (p1 p2 p3 p4 p5 : Int) (h1 : -2147483648 ≤ p1 ∧ p1 ≤ 2147483647) (h2 : -2147483648 ≤ p2 ∧ p2 ≤ 2147483647) (h3 : -2147483648 ≤ p3 ∧ p3 ≤ 2147483647) (h4 : -2147483648 ≤ p4 ∧ p4 ≤ 2147483647) (h5 : -2147483648 ≤ p5 ∧ p5 ≤ 2147483647) (e1 : xs.2 (Int.toNat (i + 1)) = Int32.ofInt p1) (e2 : xs.2 (Int.toNat (i + 2)) = Int32.ofInt p2) (e3 : xs.2 (Int.toNat (i + 3)) = Int32.ofInt p3) (e4 : xs.2 (Int.toNat (i + 4)) = Int32.ofInt p4) (e5 : xs.2 (Int.toNat (i + 5)) = Int32.ofInt p5) (hk : TJ xs JR 120 191 18 [(0, .ref 0), (1, av 0 0 0), (2, av 35 0 0), (3, iv (i + 6))] [] Q) : TJ xs JR 120 191 1287 [(0, .ref 0), (1, av 0 0 0), (2, av 35 0 0), (3, iv i)] [] Q := by
  refine T_ld zk_191_1287 rfl rfl rfl (pc' := 1288) rfl ?_
  refine T_ld zk_191_1288 rfl rfl rfl (pc' := 1289) rfl ?_
  refine T_ld zk_191_1289 rfl rfl rfl (pc' := 1290) rfl ?_
  refine T_op zk_191_1290 rfl X_ic (pc' := 1291) rfl ?_
  refine T_op zk_191_1291 rfl X_add (pc' := 1292) rfl ?_
  refine T_sld (n := n0) (w := p1) zk_191_1292 hx (by omega) (by omega) (by omega) e1 (pc' := 1293) rfl ?_
  refine T_ld zk_191_1293 rfl rfl rfl (pc' := 1294) rfl ?_
  refine T_ld zk_191_1294 rfl rfl rfl (pc' := 1295) rfl ?_
  refine T_op zk_191_1295 rfl X_ic (pc' := 1296) rfl ?_
  refine T_op zk_191_1296 rfl X_add (pc' := 1297) rfl ?_
  refine T_sld (n := n0) (w := p2) zk_191_1297 hx (by omega) (by omega) (by omega) e2 (pc' := 1298) rfl ?_
  refine T_ld zk_191_1298 rfl rfl rfl (pc' := 1299) rfl ?_
  refine T_ld zk_191_1299 rfl rfl rfl (pc' := 1300) rfl ?_
  refine T_op zk_191_1300 rfl X_ic (pc' := 1301) rfl ?_
  refine T_op zk_191_1301 rfl X_add (pc' := 1302) rfl ?_
  refine T_sld (n := n0) (w := p3) zk_191_1302 hx (by omega) (by omega) (by omega) e3 (pc' := 1303) rfl ?_
  refine T_calli (K := fun y1 σ' => (True) ∧ JR σ') (r := []) zk_191_1303 rfl rfl rfl rfl rfl rfl (Or.inr ⟨_, _, _, _, rfl, vd_0, rfl⟩) (fun σ' h => u_104 p1 p2 p3 (by omega) (by omega) (by omega) σ' h) (pc' := 1306) rfl (fun y1 => ?_)
  refine G_ex (fun hy1 => ?_)
  refine T_op (st' := []) zk_191_1306 rfl rfl (pc' := 1307) rfl ?_
  refine T_ld zk_191_1307 rfl rfl rfl (pc' := 1308) rfl ?_
  refine T_ld zk_191_1308 rfl rfl rfl (pc' := 1309) rfl ?_
  refine T_ld zk_191_1309 rfl rfl rfl (pc' := 1310) rfl ?_
  refine T_op zk_191_1310 rfl X_ic (pc' := 1311) rfl ?_
  refine T_op zk_191_1311 rfl X_add (pc' := 1312) rfl ?_
  refine T_sld (n := n0) (w := p1) zk_191_1312 hx (by omega) (by omega) (by omega) e1 (pc' := 1313) rfl ?_
  refine T_ld zk_191_1313 rfl rfl rfl (pc' := 1314) rfl ?_
  refine T_ld zk_191_1314 rfl rfl rfl (pc' := 1315) rfl ?_
  refine T_op zk_191_1315 rfl X_ic (pc' := 1316) rfl ?_
  refine T_op zk_191_1316 rfl X_add (pc' := 1317) rfl ?_
  refine T_sld (n := n0) (w := p2) zk_191_1317 hx (by omega) (by omega) (by omega) e2 (pc' := 1318) rfl ?_
  refine T_ld zk_191_1318 rfl rfl rfl (pc' := 1319) rfl ?_
  refine T_ld zk_191_1319 rfl rfl rfl (pc' := 1320) rfl ?_
  refine T_op zk_191_1320 rfl X_ic (pc' := 1321) rfl ?_
  refine T_op zk_191_1321 rfl X_add (pc' := 1322) rfl ?_
  refine T_sld (n := n0) (w := p3) zk_191_1322 hx (by omega) (by omega) (by omega) e3 (pc' := 1323) rfl ?_
  refine T_calli (K := fun y2 σ' => (True) ∧ JR σ') (r := []) zk_191_1323 rfl rfl rfl rfl rfl rfl (Or.inr ⟨_, _, _, _, rfl, vd_35, rfl⟩) (fun σ' h => u_180 p1 p2 p3 (by omega) (by omega) (by omega) σ' h) (pc' := 1326) rfl (fun y2 => ?_)
  refine G_ex (fun hy2 => ?_)
  refine T_op (st' := []) zk_191_1326 rfl rfl (pc' := 1327) rfl ?_
  refine T_goto zk_191_1327 ?_
  refine T_iinc (L' := [(0, .ref 0), (1, av 0 0 0), (2, av 35 0 0), (3, iv (i + 6))]) zk_191_1610 (nL := 4) rfl rfl (show _ = some (iv i) from rfl) rfl (pc' := 1613) rfl ?_
  refine T_goto zk_191_1613 ?_
  exact hk
theorem zl_28 {xs : Nat × (Nat → Int32)} {n0 : Nat} (hx : xs.1 = n0 + 1) {Q : Option Value → ZS → Prop} (i : Int) (hi : 0 ≤ i ∧ i + 6 ≤ n0 ∧ n0 ≤ 3072) (p1 p2 p3 p4 p5 : Int) (h1 : -2147483648 ≤ p1 ∧ p1 ≤ 2147483647) (h2 : -2147483648 ≤ p2 ∧ p2 ≤ 2147483647) (h3 : -2147483648 ≤ p3 ∧ p3 ≤ 2147483647) (h4 : -2147483648 ≤ p4 ∧ p4 ≤ 2147483647) (h5 : -2147483648 ≤ p5 ∧ p5 ≤ 2147483647) (e1 : xs.2 (Int.toNat (i + 1)) = Int32.ofInt p1) (e2 : xs.2 (Int.toNat (i + 2)) = Int32.ofInt p2) (e3 : xs.2 (Int.toNat (i + 3)) = Int32.ofInt p3) (e4 : xs.2 (Int.toNat (i + 4)) = Int32.ofInt p4) (e5 : xs.2 (Int.toNat (i + 5)) = Int32.ofInt p5) (hk : TJ xs JR 120 191 18 [(0, .ref 0), (1, av 0 0 0), (2, av 35 0 0), (3, iv (i + 6))] [] Q) : TJ xs JR 120 191 1330 [(0, .ref 0), (1, av 0 0 0), (2, av 35 0 0), (3, iv i)] [] Q := by
  refine T_ld zk_191_1330 rfl rfl rfl (pc' := 1331) rfl ?_
  refine T_ld zk_191_1331 rfl rfl rfl (pc' := 1332) rfl ?_
  refine T_ld zk_191_1332 rfl rfl rfl (pc' := 1333) rfl ?_
  refine T_op zk_191_1333 rfl X_ic (pc' := 1334) rfl ?_
  refine T_op zk_191_1334 rfl X_add (pc' := 1335) rfl ?_
  refine T_sld (n := n0) (w := p1) zk_191_1335 hx (by omega) (by omega) (by omega) e1 (pc' := 1336) rfl ?_
  refine T_ld zk_191_1336 rfl rfl rfl (pc' := 1337) rfl ?_
  refine T_ld zk_191_1337 rfl rfl rfl (pc' := 1338) rfl ?_
  refine T_op zk_191_1338 rfl X_ic (pc' := 1339) rfl ?_
  refine T_op zk_191_1339 rfl X_add (pc' := 1340) rfl ?_
  refine T_sld (n := n0) (w := p2) zk_191_1340 hx (by omega) (by omega) (by omega) e2 (pc' := 1341) rfl ?_
  refine T_calli (K := fun y1 σ' => (True) ∧ JR σ') (r := []) zk_191_1341 rfl rfl rfl rfl rfl rfl (Or.inr ⟨_, _, _, _, rfl, vd_0, rfl⟩) (fun σ' h => u_105 p1 p2 (by omega) (by omega) σ' h) (pc' := 1344) rfl (fun y1 => ?_)
  refine G_ex (fun hy1 => ?_)
  refine T_op (st' := []) zk_191_1344 rfl rfl (pc' := 1345) rfl ?_
  refine T_ld zk_191_1345 rfl rfl rfl (pc' := 1346) rfl ?_
  refine T_ld zk_191_1346 rfl rfl rfl (pc' := 1347) rfl ?_
  refine T_ld zk_191_1347 rfl rfl rfl (pc' := 1348) rfl ?_
  refine T_op zk_191_1348 rfl X_ic (pc' := 1349) rfl ?_
  refine T_op zk_191_1349 rfl X_add (pc' := 1350) rfl ?_
  refine T_sld (n := n0) (w := p1) zk_191_1350 hx (by omega) (by omega) (by omega) e1 (pc' := 1351) rfl ?_
  refine T_ld zk_191_1351 rfl rfl rfl (pc' := 1352) rfl ?_
  refine T_ld zk_191_1352 rfl rfl rfl (pc' := 1353) rfl ?_
  refine T_op zk_191_1353 rfl X_ic (pc' := 1354) rfl ?_
  refine T_op zk_191_1354 rfl X_add (pc' := 1355) rfl ?_
  refine T_sld (n := n0) (w := p2) zk_191_1355 hx (by omega) (by omega) (by omega) e2 (pc' := 1356) rfl ?_
  refine T_calli (K := fun y2 σ' => (True) ∧ JR σ') (r := []) zk_191_1356 rfl rfl rfl rfl rfl rfl (Or.inr ⟨_, _, _, _, rfl, vd_35, rfl⟩) (fun σ' h => u_174 p1 p2 (by omega) (by omega) σ' h) (pc' := 1359) rfl (fun y2 => ?_)
  refine G_ex (fun hy2 => ?_)
  refine T_op (st' := []) zk_191_1359 rfl rfl (pc' := 1360) rfl ?_
  refine T_goto zk_191_1360 ?_
  refine T_iinc (L' := [(0, .ref 0), (1, av 0 0 0), (2, av 35 0 0), (3, iv (i + 6))]) zk_191_1610 (nL := 4) rfl rfl (show _ = some (iv i) from rfl) rfl (pc' := 1613) rfl ?_
  refine T_goto zk_191_1613 ?_
  exact hk
theorem zl_29 {xs : Nat × (Nat → Int32)} {n0 : Nat} (hx : xs.1 = n0 + 1) {Q : Option Value → ZS → Prop} (i : Int) (hi : 0 ≤ i ∧ i + 6 ≤ n0 ∧ n0 ≤ 3072) (p1 p2 p3 p4 p5 : Int) (h1 : -2147483648 ≤ p1 ∧ p1 ≤ 2147483647) (h2 : -2147483648 ≤ p2 ∧ p2 ≤ 2147483647) (h3 : -2147483648 ≤ p3 ∧ p3 ≤ 2147483647) (h4 : -2147483648 ≤ p4 ∧ p4 ≤ 2147483647) (h5 : -2147483648 ≤ p5 ∧ p5 ≤ 2147483647) (e1 : xs.2 (Int.toNat (i + 1)) = Int32.ofInt p1) (e2 : xs.2 (Int.toNat (i + 2)) = Int32.ofInt p2) (e3 : xs.2 (Int.toNat (i + 3)) = Int32.ofInt p3) (e4 : xs.2 (Int.toNat (i + 4)) = Int32.ofInt p4) (e5 : xs.2 (Int.toNat (i + 5)) = Int32.ofInt p5) (hk : TJ xs JR 120 191 18 [(0, .ref 0), (1, av 0 0 0), (2, av 35 0 0), (3, iv (i + 6))] [] Q) : TJ xs JR 120 191 1363 [(0, .ref 0), (1, av 0 0 0), (2, av 35 0 0), (3, iv i)] [] Q := by
  refine T_ld zk_191_1363 rfl rfl rfl (pc' := 1364) rfl ?_
  refine T_ld zk_191_1364 rfl rfl rfl (pc' := 1365) rfl ?_
  refine T_ld zk_191_1365 rfl rfl rfl (pc' := 1366) rfl ?_
  refine T_op zk_191_1366 rfl X_ic (pc' := 1367) rfl ?_
  refine T_op zk_191_1367 rfl X_add (pc' := 1368) rfl ?_
  refine T_sld (n := n0) (w := p1) zk_191_1368 hx (by omega) (by omega) (by omega) e1 (pc' := 1369) rfl ?_
  refine T_calli (K := fun y1 σ' => (True) ∧ JR σ') (r := []) zk_191_1369 rfl rfl rfl rfl rfl rfl (Or.inr ⟨_, _, _, _, rfl, vd_0, rfl⟩) (fun σ' h => u_106 p1 (by omega) σ' h) (pc' := 1372) rfl (fun y1 => ?_)
  refine G_ex (fun hy1 => ?_)
  refine T_op (st' := []) zk_191_1372 rfl rfl (pc' := 1373) rfl ?_
  refine T_ld zk_191_1373 rfl rfl rfl (pc' := 1374) rfl ?_
  refine T_ld zk_191_1374 rfl rfl rfl (pc' := 1375) rfl ?_
  refine T_ld zk_191_1375 rfl rfl rfl (pc' := 1376) rfl ?_
  refine T_op zk_191_1376 rfl X_ic (pc' := 1377) rfl ?_
  refine T_op zk_191_1377 rfl X_add (pc' := 1378) rfl ?_
  refine T_sld (n := n0) (w := p1) zk_191_1378 hx (by omega) (by omega) (by omega) e1 (pc' := 1379) rfl ?_
  refine T_calli (K := fun y2 σ' => (True) ∧ JR σ') (r := []) zk_191_1379 rfl rfl rfl rfl rfl rfl (Or.inr ⟨_, _, _, _, rfl, vd_35, rfl⟩) (fun σ' h => u_178 p1 (by omega) σ' h) (pc' := 1382) rfl (fun y2 => ?_)
  refine G_ex (fun hy2 => ?_)
  refine T_op (st' := []) zk_191_1382 rfl rfl (pc' := 1383) rfl ?_
  refine T_goto zk_191_1383 ?_
  refine T_iinc (L' := [(0, .ref 0), (1, av 0 0 0), (2, av 35 0 0), (3, iv (i + 6))]) zk_191_1610 (nL := 4) rfl rfl (show _ = some (iv i) from rfl) rfl (pc' := 1613) rfl ?_
  refine T_goto zk_191_1613 ?_
  exact hk
theorem zl_30 {xs : Nat × (Nat → Int32)} {n0 : Nat} (hx : xs.1 = n0 + 1) {Q : Option Value → ZS → Prop} (i : Int) (hi : 0 ≤ i ∧ i + 6 ≤ n0 ∧ n0 ≤ 3072) (p1 p2 p3 p4 p5 : Int) (h1 : -2147483648 ≤ p1 ∧ p1 ≤ 2147483647) (h2 : -2147483648 ≤ p2 ∧ p2 ≤ 2147483647) (h3 : -2147483648 ≤ p3 ∧ p3 ≤ 2147483647) (h4 : -2147483648 ≤ p4 ∧ p4 ≤ 2147483647) (h5 : -2147483648 ≤ p5 ∧ p5 ≤ 2147483647) (e1 : xs.2 (Int.toNat (i + 1)) = Int32.ofInt p1) (e2 : xs.2 (Int.toNat (i + 2)) = Int32.ofInt p2) (e3 : xs.2 (Int.toNat (i + 3)) = Int32.ofInt p3) (e4 : xs.2 (Int.toNat (i + 4)) = Int32.ofInt p4) (e5 : xs.2 (Int.toNat (i + 5)) = Int32.ofInt p5) (hk : TJ xs JR 120 191 18 [(0, .ref 0), (1, av 0 0 0), (2, av 35 0 0), (3, iv (i + 6))] [] Q) : TJ xs JR 120 191 1386 [(0, .ref 0), (1, av 0 0 0), (2, av 35 0 0), (3, iv i)] [] Q := by
  refine T_ld zk_191_1386 rfl rfl rfl (pc' := 1387) rfl ?_
  refine T_ld zk_191_1387 rfl rfl rfl (pc' := 1388) rfl ?_
  refine T_ld zk_191_1388 rfl rfl rfl (pc' := 1389) rfl ?_
  refine T_op zk_191_1389 rfl X_ic (pc' := 1390) rfl ?_
  refine T_op zk_191_1390 rfl X_add (pc' := 1391) rfl ?_
  refine T_sld (n := n0) (w := p1) zk_191_1391 hx (by omega) (by omega) (by omega) e1 (pc' := 1392) rfl ?_
  refine T_ld zk_191_1392 rfl rfl rfl (pc' := 1393) rfl ?_
  refine T_ld zk_191_1393 rfl rfl rfl (pc' := 1394) rfl ?_
  refine T_op zk_191_1394 rfl X_ic (pc' := 1395) rfl ?_
  refine T_op zk_191_1395 rfl X_add (pc' := 1396) rfl ?_
  refine T_sld (n := n0) (w := p2) zk_191_1396 hx (by omega) (by omega) (by omega) e2 (pc' := 1397) rfl ?_
  refine T_calli (K := fun y1 σ' => (True) ∧ JR σ') (r := []) zk_191_1397 rfl rfl rfl rfl rfl rfl (Or.inr ⟨_, _, _, _, rfl, vd_0, rfl⟩) (fun σ' h => u_107 p1 p2 (by omega) (by omega) σ' h) (pc' := 1400) rfl (fun y1 => ?_)
  refine G_ex (fun hy1 => ?_)
  refine T_op (st' := []) zk_191_1400 rfl rfl (pc' := 1401) rfl ?_
  refine T_ld zk_191_1401 rfl rfl rfl (pc' := 1402) rfl ?_
  refine T_ld zk_191_1402 rfl rfl rfl (pc' := 1403) rfl ?_
  refine T_ld zk_191_1403 rfl rfl rfl (pc' := 1404) rfl ?_
  refine T_op zk_191_1404 rfl X_ic (pc' := 1405) rfl ?_
  refine T_op zk_191_1405 rfl X_add (pc' := 1406) rfl ?_
  refine T_sld (n := n0) (w := p1) zk_191_1406 hx (by omega) (by omega) (by omega) e1 (pc' := 1407) rfl ?_
  refine T_ld zk_191_1407 rfl rfl rfl (pc' := 1408) rfl ?_
  refine T_ld zk_191_1408 rfl rfl rfl (pc' := 1409) rfl ?_
  refine T_op zk_191_1409 rfl X_ic (pc' := 1410) rfl ?_
  refine T_op zk_191_1410 rfl X_add (pc' := 1411) rfl ?_
  refine T_sld (n := n0) (w := p2) zk_191_1411 hx (by omega) (by omega) (by omega) e2 (pc' := 1412) rfl ?_
  refine T_calli (K := fun y2 σ' => (True) ∧ JR σ') (r := []) zk_191_1412 rfl rfl rfl rfl rfl rfl (Or.inr ⟨_, _, _, _, rfl, vd_35, rfl⟩) (fun σ' h => u_181 p1 p2 (by omega) (by omega) σ' h) (pc' := 1415) rfl (fun y2 => ?_)
  refine G_ex (fun hy2 => ?_)
  refine T_op (st' := []) zk_191_1415 rfl rfl (pc' := 1416) rfl ?_
  refine T_goto zk_191_1416 ?_
  refine T_iinc (L' := [(0, .ref 0), (1, av 0 0 0), (2, av 35 0 0), (3, iv (i + 6))]) zk_191_1610 (nL := 4) rfl rfl (show _ = some (iv i) from rfl) rfl (pc' := 1613) rfl ?_
  refine T_goto zk_191_1613 ?_
  exact hk
theorem zl_31 {xs : Nat × (Nat → Int32)} {n0 : Nat} (hx : xs.1 = n0 + 1) {Q : Option Value → ZS → Prop} (i : Int) (hi : 0 ≤ i ∧ i + 6 ≤ n0 ∧ n0 ≤ 3072) (p1 p2 p3 p4 p5 : Int) (h1 : -2147483648 ≤ p1 ∧ p1 ≤ 2147483647) (h2 : -2147483648 ≤ p2 ∧ p2 ≤ 2147483647) (h3 : -2147483648 ≤ p3 ∧ p3 ≤ 2147483647) (h4 : -2147483648 ≤ p4 ∧ p4 ≤ 2147483647) (h5 : -2147483648 ≤ p5 ∧ p5 ≤ 2147483647) (e1 : xs.2 (Int.toNat (i + 1)) = Int32.ofInt p1) (e2 : xs.2 (Int.toNat (i + 2)) = Int32.ofInt p2) (e3 : xs.2 (Int.toNat (i + 3)) = Int32.ofInt p3) (e4 : xs.2 (Int.toNat (i + 4)) = Int32.ofInt p4) (e5 : xs.2 (Int.toNat (i + 5)) = Int32.ofInt p5) (hk : TJ xs JR 120 191 18 [(0, .ref 0), (1, av 0 0 0), (2, av 35 0 0), (3, iv (i + 6))] [] Q) : TJ xs JR 120 191 1419 [(0, .ref 0), (1, av 0 0 0), (2, av 35 0 0), (3, iv i)] [] Q := by
  refine T_ld zk_191_1419 rfl rfl rfl (pc' := 1420) rfl ?_
  refine T_ld zk_191_1420 rfl rfl rfl (pc' := 1421) rfl ?_
  refine T_ld zk_191_1421 rfl rfl rfl (pc' := 1422) rfl ?_
  refine T_op zk_191_1422 rfl X_ic (pc' := 1423) rfl ?_
  refine T_op zk_191_1423 rfl X_add (pc' := 1424) rfl ?_
  refine T_sld (n := n0) (w := p1) zk_191_1424 hx (by omega) (by omega) (by omega) e1 (pc' := 1425) rfl ?_
  refine T_ld zk_191_1425 rfl rfl rfl (pc' := 1426) rfl ?_
  refine T_ld zk_191_1426 rfl rfl rfl (pc' := 1427) rfl ?_
  refine T_op zk_191_1427 rfl X_ic (pc' := 1428) rfl ?_
  refine T_op zk_191_1428 rfl X_add (pc' := 1429) rfl ?_
  refine T_sld (n := n0) (w := p2) zk_191_1429 hx (by omega) (by omega) (by omega) e2 (pc' := 1430) rfl ?_
  refine T_calli (K := fun y1 σ' => (True) ∧ JR σ') (r := []) zk_191_1430 rfl rfl rfl rfl rfl rfl (Or.inr ⟨_, _, _, _, rfl, vd_0, rfl⟩) (fun σ' h => u_97 p1 p2 (by omega) (by omega) σ' h) (pc' := 1433) rfl (fun y1 => ?_)
  refine G_ex (fun hy1 => ?_)
  refine T_op (st' := []) zk_191_1433 rfl rfl (pc' := 1434) rfl ?_
  refine T_ld zk_191_1434 rfl rfl rfl (pc' := 1435) rfl ?_
  refine T_ld zk_191_1435 rfl rfl rfl (pc' := 1436) rfl ?_
  refine T_ld zk_191_1436 rfl rfl rfl (pc' := 1437) rfl ?_
  refine T_op zk_191_1437 rfl X_ic (pc' := 1438) rfl ?_
  refine T_op zk_191_1438 rfl X_add (pc' := 1439) rfl ?_
  refine T_sld (n := n0) (w := p1) zk_191_1439 hx (by omega) (by omega) (by omega) e1 (pc' := 1440) rfl ?_
  refine T_ld zk_191_1440 rfl rfl rfl (pc' := 1441) rfl ?_
  refine T_ld zk_191_1441 rfl rfl rfl (pc' := 1442) rfl ?_
  refine T_op zk_191_1442 rfl X_ic (pc' := 1443) rfl ?_
  refine T_op zk_191_1443 rfl X_add (pc' := 1444) rfl ?_
  refine T_sld (n := n0) (w := p2) zk_191_1444 hx (by omega) (by omega) (by omega) e2 (pc' := 1445) rfl ?_
  refine T_calli (K := fun y2 σ' => (True) ∧ JR σ') (r := []) zk_191_1445 rfl rfl rfl rfl rfl rfl (Or.inr ⟨_, _, _, _, rfl, vd_35, rfl⟩) (fun σ' h => u_182 p1 p2 (by omega) (by omega) σ' h) (pc' := 1448) rfl (fun y2 => ?_)
  refine G_ex (fun hy2 => ?_)
  refine T_op (st' := []) zk_191_1448 rfl rfl (pc' := 1449) rfl ?_
  refine T_goto zk_191_1449 ?_
  refine T_iinc (L' := [(0, .ref 0), (1, av 0 0 0), (2, av 35 0 0), (3, iv (i + 6))]) zk_191_1610 (nL := 4) rfl rfl (show _ = some (iv i) from rfl) rfl (pc' := 1613) rfl ?_
  refine T_goto zk_191_1613 ?_
  exact hk
theorem zl_32 {xs : Nat × (Nat → Int32)} {n0 : Nat} (hx : xs.1 = n0 + 1) {Q : Option Value → ZS → Prop} (i : Int) (hi : 0 ≤ i ∧ i + 6 ≤ n0 ∧ n0 ≤ 3072) (p1 p2 p3 p4 p5 : Int) (h1 : -2147483648 ≤ p1 ∧ p1 ≤ 2147483647) (h2 : -2147483648 ≤ p2 ∧ p2 ≤ 2147483647) (h3 : -2147483648 ≤ p3 ∧ p3 ≤ 2147483647) (h4 : -2147483648 ≤ p4 ∧ p4 ≤ 2147483647) (h5 : -2147483648 ≤ p5 ∧ p5 ≤ 2147483647) (e1 : xs.2 (Int.toNat (i + 1)) = Int32.ofInt p1) (e2 : xs.2 (Int.toNat (i + 2)) = Int32.ofInt p2) (e3 : xs.2 (Int.toNat (i + 3)) = Int32.ofInt p3) (e4 : xs.2 (Int.toNat (i + 4)) = Int32.ofInt p4) (e5 : xs.2 (Int.toNat (i + 5)) = Int32.ofInt p5) (hk : TJ xs JR 120 191 18 [(0, .ref 0), (1, av 0 0 0), (2, av 35 0 0), (3, iv (i + 6))] [] Q) : TJ xs JR 120 191 1452 [(0, .ref 0), (1, av 0 0 0), (2, av 35 0 0), (3, iv i)] [] Q := by
  refine T_ld zk_191_1452 rfl rfl rfl (pc' := 1453) rfl ?_
  refine T_ld zk_191_1453 rfl rfl rfl (pc' := 1454) rfl ?_
  refine T_ld zk_191_1454 rfl rfl rfl (pc' := 1455) rfl ?_
  refine T_op zk_191_1455 rfl X_ic (pc' := 1456) rfl ?_
  refine T_op zk_191_1456 rfl X_add (pc' := 1457) rfl ?_
  refine T_sld (n := n0) (w := p1) zk_191_1457 hx (by omega) (by omega) (by omega) e1 (pc' := 1458) rfl ?_
  refine T_ld zk_191_1458 rfl rfl rfl (pc' := 1459) rfl ?_
  refine T_ld zk_191_1459 rfl rfl rfl (pc' := 1460) rfl ?_
  refine T_op zk_191_1460 rfl X_ic (pc' := 1461) rfl ?_
  refine T_op zk_191_1461 rfl X_add (pc' := 1462) rfl ?_
  refine T_sld (n := n0) (w := p2) zk_191_1462 hx (by omega) (by omega) (by omega) e2 (pc' := 1463) rfl ?_
  refine T_calli (K := fun y1 σ' => (True) ∧ JR σ') (r := []) zk_191_1463 rfl rfl rfl rfl rfl rfl (Or.inr ⟨_, _, _, _, rfl, vd_0, rfl⟩) (fun σ' h => u_80 p1 p2 (by omega) (by omega) σ' h) (pc' := 1466) rfl (fun y1 => ?_)
  refine G_ex (fun hy1 => ?_)
  refine T_op (st' := []) zk_191_1466 rfl rfl (pc' := 1467) rfl ?_
  refine T_ld zk_191_1467 rfl rfl rfl (pc' := 1468) rfl ?_
  refine T_ld zk_191_1468 rfl rfl rfl (pc' := 1469) rfl ?_
  refine T_ld zk_191_1469 rfl rfl rfl (pc' := 1470) rfl ?_
  refine T_op zk_191_1470 rfl X_ic (pc' := 1471) rfl ?_
  refine T_op zk_191_1471 rfl X_add (pc' := 1472) rfl ?_
  refine T_sld (n := n0) (w := p1) zk_191_1472 hx (by omega) (by omega) (by omega) e1 (pc' := 1473) rfl ?_
  refine T_ld zk_191_1473 rfl rfl rfl (pc' := 1474) rfl ?_
  refine T_ld zk_191_1474 rfl rfl rfl (pc' := 1475) rfl ?_
  refine T_op zk_191_1475 rfl X_ic (pc' := 1476) rfl ?_
  refine T_op zk_191_1476 rfl X_add (pc' := 1477) rfl ?_
  refine T_sld (n := n0) (w := p2) zk_191_1477 hx (by omega) (by omega) (by omega) e2 (pc' := 1478) rfl ?_
  refine T_calli (K := fun y2 σ' => (True) ∧ JR σ') (r := []) zk_191_1478 rfl rfl rfl rfl rfl rfl (Or.inr ⟨_, _, _, _, rfl, vd_35, rfl⟩) (fun σ' h => u_183 p1 p2 (by omega) (by omega) σ' h) (pc' := 1481) rfl (fun y2 => ?_)
  refine G_ex (fun hy2 => ?_)
  refine T_op (st' := []) zk_191_1481 rfl rfl (pc' := 1482) rfl ?_
  refine T_goto zk_191_1482 ?_
  refine T_iinc (L' := [(0, .ref 0), (1, av 0 0 0), (2, av 35 0 0), (3, iv (i + 6))]) zk_191_1610 (nL := 4) rfl rfl (show _ = some (iv i) from rfl) rfl (pc' := 1613) rfl ?_
  refine T_goto zk_191_1613 ?_
  exact hk
theorem zl_33 {xs : Nat × (Nat → Int32)} {n0 : Nat} (hx : xs.1 = n0 + 1) {Q : Option Value → ZS → Prop} (i : Int) (hi : 0 ≤ i ∧ i + 6 ≤ n0 ∧ n0 ≤ 3072) (p1 p2 p3 p4 p5 : Int) (h1 : -2147483648 ≤ p1 ∧ p1 ≤ 2147483647) (h2 : -2147483648 ≤ p2 ∧ p2 ≤ 2147483647) (h3 : -2147483648 ≤ p3 ∧ p3 ≤ 2147483647) (h4 : -2147483648 ≤ p4 ∧ p4 ≤ 2147483647) (h5 : -2147483648 ≤ p5 ∧ p5 ≤ 2147483647) (e1 : xs.2 (Int.toNat (i + 1)) = Int32.ofInt p1) (e2 : xs.2 (Int.toNat (i + 2)) = Int32.ofInt p2) (e3 : xs.2 (Int.toNat (i + 3)) = Int32.ofInt p3) (e4 : xs.2 (Int.toNat (i + 4)) = Int32.ofInt p4) (e5 : xs.2 (Int.toNat (i + 5)) = Int32.ofInt p5) (hk : TJ xs JR 120 191 18 [(0, .ref 0), (1, av 0 0 0), (2, av 35 0 0), (3, iv (i + 6))] [] Q) : TJ xs JR 120 191 1485 [(0, .ref 0), (1, av 0 0 0), (2, av 35 0 0), (3, iv i)] [] Q := by
  refine T_ld zk_191_1485 rfl rfl rfl (pc' := 1486) rfl ?_
  refine T_calli (K := fun y1 σ' => PX_33  y1 σ') (r := []) zk_191_1486 rfl rfl rfl rfl rfl rfl (Or.inr ⟨_, _, _, _, rfl, vd_0, rfl⟩) (fun σ' h => ux_33   σ' h) (pc' := 1489) rfl (fun y1 => ?_)
  refine T_op (st' := []) zk_191_1489 rfl rfl (pc' := 1490) rfl ?_
  refine T_ld zk_191_1490 rfl rfl rfl (pc' := 1491) rfl ?_
  refine T_calli (K := fun y2 σ' => (True) ∧ JR σ') (r := []) zk_191_1491 rfl rfl rfl rfl rfl rfl (Or.inr ⟨_, _, _, _, rfl, vd_35, rfl⟩) (fun σ' h => um_33   y1 σ' h) (pc' := 1494) rfl (fun y2 => ?_)
  refine G_ex (fun hy2 => ?_)
  refine T_op (st' := []) zk_191_1494 rfl rfl (pc' := 1495) rfl ?_
  refine T_goto zk_191_1495 ?_
  refine T_iinc (L' := [(0, .ref 0), (1, av 0 0 0), (2, av 35 0 0), (3, iv (i + 6))]) zk_191_1610 (nL := 4) rfl rfl (show _ = some (iv i) from rfl) rfl (pc' := 1613) rfl ?_
  refine T_goto zk_191_1613 ?_
  exact hk
theorem zl_34 {xs : Nat × (Nat → Int32)} {n0 : Nat} (hx : xs.1 = n0 + 1) {Q : Option Value → ZS → Prop} (i : Int) (hi : 0 ≤ i ∧ i + 6 ≤ n0 ∧ n0 ≤ 3072) (p1 p2 p3 p4 p5 : Int) (h1 : -2147483648 ≤ p1 ∧ p1 ≤ 2147483647) (h2 : -2147483648 ≤ p2 ∧ p2 ≤ 2147483647) (h3 : -2147483648 ≤ p3 ∧ p3 ≤ 2147483647) (h4 : -2147483648 ≤ p4 ∧ p4 ≤ 2147483647) (h5 : -2147483648 ≤ p5 ∧ p5 ≤ 2147483647) (e1 : xs.2 (Int.toNat (i + 1)) = Int32.ofInt p1) (e2 : xs.2 (Int.toNat (i + 2)) = Int32.ofInt p2) (e3 : xs.2 (Int.toNat (i + 3)) = Int32.ofInt p3) (e4 : xs.2 (Int.toNat (i + 4)) = Int32.ofInt p4) (e5 : xs.2 (Int.toNat (i + 5)) = Int32.ofInt p5) (hk : TJ xs JR 120 191 18 [(0, .ref 0), (1, av 0 0 0), (2, av 35 0 0), (3, iv (i + 6))] [] Q) : TJ xs JR 120 191 1498 [(0, .ref 0), (1, av 0 0 0), (2, av 35 0 0), (3, iv i)] [] Q := by
  refine T_ld zk_191_1498 rfl rfl rfl (pc' := 1499) rfl ?_
  refine T_calli (K := fun y1 σ' => PX_34  y1 σ') (r := []) zk_191_1499 rfl rfl rfl rfl rfl rfl (Or.inr ⟨_, _, _, _, rfl, vd_0, rfl⟩) (fun σ' h => ux_34   σ' h) (pc' := 1502) rfl (fun y1 => ?_)
  refine T_op (st' := []) zk_191_1502 rfl rfl (pc' := 1503) rfl ?_
  refine T_ld zk_191_1503 rfl rfl rfl (pc' := 1504) rfl ?_
  refine T_calli (K := fun y2 σ' => (True) ∧ JR σ') (r := []) zk_191_1504 rfl rfl rfl rfl rfl rfl (Or.inr ⟨_, _, _, _, rfl, vd_35, rfl⟩) (fun σ' h => um_34   y1 σ' h) (pc' := 1507) rfl (fun y2 => ?_)
  refine G_ex (fun hy2 => ?_)
  refine T_op (st' := []) zk_191_1507 rfl rfl (pc' := 1508) rfl ?_
  refine T_goto zk_191_1508 ?_
  refine T_iinc (L' := [(0, .ref 0), (1, av 0 0 0), (2, av 35 0 0), (3, iv (i + 6))]) zk_191_1610 (nL := 4) rfl rfl (show _ = some (iv i) from rfl) rfl (pc' := 1613) rfl ?_
  refine T_goto zk_191_1613 ?_
  exact hk
theorem zl_35 {xs : Nat × (Nat → Int32)} {n0 : Nat} (hx : xs.1 = n0 + 1) {Q : Option Value → ZS → Prop} (i : Int) (hi : 0 ≤ i ∧ i + 6 ≤ n0 ∧ n0 ≤ 3072) (p1 p2 p3 p4 p5 : Int) (h1 : -2147483648 ≤ p1 ∧ p1 ≤ 2147483647) (h2 : -2147483648 ≤ p2 ∧ p2 ≤ 2147483647) (h3 : -2147483648 ≤ p3 ∧ p3 ≤ 2147483647) (h4 : -2147483648 ≤ p4 ∧ p4 ≤ 2147483647) (h5 : -2147483648 ≤ p5 ∧ p5 ≤ 2147483647) (e1 : xs.2 (Int.toNat (i + 1)) = Int32.ofInt p1) (e2 : xs.2 (Int.toNat (i + 2)) = Int32.ofInt p2) (e3 : xs.2 (Int.toNat (i + 3)) = Int32.ofInt p3) (e4 : xs.2 (Int.toNat (i + 4)) = Int32.ofInt p4) (e5 : xs.2 (Int.toNat (i + 5)) = Int32.ofInt p5) (hk : TJ xs JR 120 191 18 [(0, .ref 0), (1, av 0 0 0), (2, av 35 0 0), (3, iv (i + 6))] [] Q) : TJ xs JR 120 191 1511 [(0, .ref 0), (1, av 0 0 0), (2, av 35 0 0), (3, iv i)] [] Q := by
  refine T_ld zk_191_1511 rfl rfl rfl (pc' := 1512) rfl ?_
  refine T_ld zk_191_1512 rfl rfl rfl (pc' := 1513) rfl ?_
  refine T_ld zk_191_1513 rfl rfl rfl (pc' := 1514) rfl ?_
  refine T_op zk_191_1514 rfl X_ic (pc' := 1515) rfl ?_
  refine T_op zk_191_1515 rfl X_add (pc' := 1516) rfl ?_
  refine T_sld (n := n0) (w := p1) zk_191_1516 hx (by omega) (by omega) (by omega) e1 (pc' := 1517) rfl ?_
  refine T_ld zk_191_1517 rfl rfl rfl (pc' := 1518) rfl ?_
  refine T_ld zk_191_1518 rfl rfl rfl (pc' := 1519) rfl ?_
  refine T_op zk_191_1519 rfl X_ic (pc' := 1520) rfl ?_
  refine T_op zk_191_1520 rfl X_add (pc' := 1521) rfl ?_
  refine T_sld (n := n0) (w := p2) zk_191_1521 hx (by omega) (by omega) (by omega) e2 (pc' := 1522) rfl ?_
  refine T_calli (K := fun y1 σ' => (True) ∧ JR σ') (r := []) zk_191_1522 rfl rfl rfl rfl rfl rfl (Or.inr ⟨_, _, _, _, rfl, vd_0, rfl⟩) (fun σ' h => u_110 p1 p2 (by omega) (by omega) σ' h) (pc' := 1525) rfl (fun y1 => ?_)
  refine G_ex (fun hy1 => ?_)
  refine T_op (st' := []) zk_191_1525 rfl rfl (pc' := 1526) rfl ?_
  refine T_ld zk_191_1526 rfl rfl rfl (pc' := 1527) rfl ?_
  refine T_ld zk_191_1527 rfl rfl rfl (pc' := 1528) rfl ?_
  refine T_ld zk_191_1528 rfl rfl rfl (pc' := 1529) rfl ?_
  refine T_op zk_191_1529 rfl X_ic (pc' := 1530) rfl ?_
  refine T_op zk_191_1530 rfl X_add (pc' := 1531) rfl ?_
  refine T_sld (n := n0) (w := p1) zk_191_1531 hx (by omega) (by omega) (by omega) e1 (pc' := 1532) rfl ?_
  refine T_ld zk_191_1532 rfl rfl rfl (pc' := 1533) rfl ?_
  refine T_ld zk_191_1533 rfl rfl rfl (pc' := 1534) rfl ?_
  refine T_op zk_191_1534 rfl X_ic (pc' := 1535) rfl ?_
  refine T_op zk_191_1535 rfl X_add (pc' := 1536) rfl ?_
  refine T_sld (n := n0) (w := p2) zk_191_1536 hx (by omega) (by omega) (by omega) e2 (pc' := 1537) rfl ?_
  refine T_calli (K := fun y2 σ' => (True) ∧ JR σ') (r := []) zk_191_1537 rfl rfl rfl rfl rfl rfl (Or.inr ⟨_, _, _, _, rfl, vd_35, rfl⟩) (fun σ' h => u_186 p1 p2 (by omega) (by omega) σ' h) (pc' := 1540) rfl (fun y2 => ?_)
  refine G_ex (fun hy2 => ?_)
  refine T_op (st' := []) zk_191_1540 rfl rfl (pc' := 1541) rfl ?_
  refine T_goto zk_191_1541 ?_
  refine T_iinc (L' := [(0, .ref 0), (1, av 0 0 0), (2, av 35 0 0), (3, iv (i + 6))]) zk_191_1610 (nL := 4) rfl rfl (show _ = some (iv i) from rfl) rfl (pc' := 1613) rfl ?_
  refine T_goto zk_191_1613 ?_
  exact hk
theorem zl_36 {xs : Nat × (Nat → Int32)} {n0 : Nat} (hx : xs.1 = n0 + 1) {Q : Option Value → ZS → Prop} (i : Int) (hi : 0 ≤ i ∧ i + 6 ≤ n0 ∧ n0 ≤ 3072) (p1 p2 p3 p4 p5 : Int) (h1 : -2147483648 ≤ p1 ∧ p1 ≤ 2147483647) (h2 : -2147483648 ≤ p2 ∧ p2 ≤ 2147483647) (h3 : -2147483648 ≤ p3 ∧ p3 ≤ 2147483647) (h4 : -2147483648 ≤ p4 ∧ p4 ≤ 2147483647) (h5 : -2147483648 ≤ p5 ∧ p5 ≤ 2147483647) (e1 : xs.2 (Int.toNat (i + 1)) = Int32.ofInt p1) (e2 : xs.2 (Int.toNat (i + 2)) = Int32.ofInt p2) (e3 : xs.2 (Int.toNat (i + 3)) = Int32.ofInt p3) (e4 : xs.2 (Int.toNat (i + 4)) = Int32.ofInt p4) (e5 : xs.2 (Int.toNat (i + 5)) = Int32.ofInt p5) (hk : TJ xs JR 120 191 18 [(0, .ref 0), (1, av 0 0 0), (2, av 35 0 0), (3, iv (i + 6))] [] Q) : TJ xs JR 120 191 1544 [(0, .ref 0), (1, av 0 0 0), (2, av 35 0 0), (3, iv i)] [] Q := by
  refine T_ld zk_191_1544 rfl rfl rfl (pc' := 1545) rfl ?_
  refine T_ld zk_191_1545 rfl rfl rfl (pc' := 1546) rfl ?_
  refine T_ld zk_191_1546 rfl rfl rfl (pc' := 1547) rfl ?_
  refine T_op zk_191_1547 rfl X_ic (pc' := 1548) rfl ?_
  refine T_op zk_191_1548 rfl X_add (pc' := 1549) rfl ?_
  refine T_sld (n := n0) (w := p1) zk_191_1549 hx (by omega) (by omega) (by omega) e1 (pc' := 1550) rfl ?_
  refine T_ld zk_191_1550 rfl rfl rfl (pc' := 1551) rfl ?_
  refine T_ld zk_191_1551 rfl rfl rfl (pc' := 1552) rfl ?_
  refine T_op zk_191_1552 rfl X_ic (pc' := 1553) rfl ?_
  refine T_op zk_191_1553 rfl X_add (pc' := 1554) rfl ?_
  refine T_sld (n := n0) (w := p2) zk_191_1554 hx (by omega) (by omega) (by omega) e2 (pc' := 1555) rfl ?_
  refine T_ld zk_191_1555 rfl rfl rfl (pc' := 1556) rfl ?_
  refine T_ld zk_191_1556 rfl rfl rfl (pc' := 1557) rfl ?_
  refine T_op zk_191_1557 rfl X_ic (pc' := 1558) rfl ?_
  refine T_op zk_191_1558 rfl X_add (pc' := 1559) rfl ?_
  refine T_sld (n := n0) (w := p3) zk_191_1559 hx (by omega) (by omega) (by omega) e3 (pc' := 1560) rfl ?_
  refine T_calli (K := fun y1 σ' => (True) ∧ JR σ') (r := []) zk_191_1560 rfl rfl rfl rfl rfl rfl (Or.inr ⟨_, _, _, _, rfl, vd_0, rfl⟩) (fun σ' h => u_111 p1 p2 p3 (by omega) (by omega) (by omega) σ' h) (pc' := 1563) rfl (fun y1 => ?_)
  refine G_ex (fun hy1 => ?_)
  refine T_op (st' := []) zk_191_1563 rfl rfl (pc' := 1564) rfl ?_
  refine T_ld zk_191_1564 rfl rfl rfl (pc' := 1565) rfl ?_
  refine T_ld zk_191_1565 rfl rfl rfl (pc' := 1566) rfl ?_
  refine T_ld zk_191_1566 rfl rfl rfl (pc' := 1567) rfl ?_
  refine T_op zk_191_1567 rfl X_ic (pc' := 1568) rfl ?_
  refine T_op zk_191_1568 rfl X_add (pc' := 1569) rfl ?_
  refine T_sld (n := n0) (w := p1) zk_191_1569 hx (by omega) (by omega) (by omega) e1 (pc' := 1570) rfl ?_
  refine T_ld zk_191_1570 rfl rfl rfl (pc' := 1571) rfl ?_
  refine T_ld zk_191_1571 rfl rfl rfl (pc' := 1572) rfl ?_
  refine T_op zk_191_1572 rfl X_ic (pc' := 1573) rfl ?_
  refine T_op zk_191_1573 rfl X_add (pc' := 1574) rfl ?_
  refine T_sld (n := n0) (w := p2) zk_191_1574 hx (by omega) (by omega) (by omega) e2 (pc' := 1575) rfl ?_
  refine T_ld zk_191_1575 rfl rfl rfl (pc' := 1576) rfl ?_
  refine T_ld zk_191_1576 rfl rfl rfl (pc' := 1577) rfl ?_
  refine T_op zk_191_1577 rfl X_ic (pc' := 1578) rfl ?_
  refine T_op zk_191_1578 rfl X_add (pc' := 1579) rfl ?_
  refine T_sld (n := n0) (w := p3) zk_191_1579 hx (by omega) (by omega) (by omega) e3 (pc' := 1580) rfl ?_
  refine T_calli (K := fun y2 σ' => (True) ∧ JR σ') (r := []) zk_191_1580 rfl rfl rfl rfl rfl rfl (Or.inr ⟨_, _, _, _, rfl, vd_35, rfl⟩) (fun σ' h => u_187 p1 p2 p3 (by omega) (by omega) (by omega) σ' h) (pc' := 1583) rfl (fun y2 => ?_)
  refine G_ex (fun hy2 => ?_)
  refine T_op (st' := []) zk_191_1583 rfl rfl (pc' := 1584) rfl ?_
  refine T_goto zk_191_1584 ?_
  refine T_iinc (L' := [(0, .ref 0), (1, av 0 0 0), (2, av 35 0 0), (3, iv (i + 6))]) zk_191_1610 (nL := 4) rfl rfl (show _ = some (iv i) from rfl) rfl (pc' := 1613) rfl ?_
  refine T_goto zk_191_1613 ?_
  exact hk
theorem zl_37 {xs : Nat × (Nat → Int32)} {n0 : Nat} (hx : xs.1 = n0 + 1) {Q : Option Value → ZS → Prop} (i : Int) (hi : 0 ≤ i ∧ i + 6 ≤ n0 ∧ n0 ≤ 3072) (p1 p2 p3 p4 p5 : Int) (h1 : -2147483648 ≤ p1 ∧ p1 ≤ 2147483647) (h2 : -2147483648 ≤ p2 ∧ p2 ≤ 2147483647) (h3 : -2147483648 ≤ p3 ∧ p3 ≤ 2147483647) (h4 : -2147483648 ≤ p4 ∧ p4 ≤ 2147483647) (h5 : -2147483648 ≤ p5 ∧ p5 ≤ 2147483647) (e1 : xs.2 (Int.toNat (i + 1)) = Int32.ofInt p1) (e2 : xs.2 (Int.toNat (i + 2)) = Int32.ofInt p2) (e3 : xs.2 (Int.toNat (i + 3)) = Int32.ofInt p3) (e4 : xs.2 (Int.toNat (i + 4)) = Int32.ofInt p4) (e5 : xs.2 (Int.toNat (i + 5)) = Int32.ofInt p5) (hk : TJ xs JR 120 191 18 [(0, .ref 0), (1, av 0 0 0), (2, av 35 0 0), (3, iv (i + 6))] [] Q) : TJ xs JR 120 191 1587 [(0, .ref 0), (1, av 0 0 0), (2, av 35 0 0), (3, iv i)] [] Q := by
  refine T_ld zk_191_1587 rfl rfl rfl (pc' := 1588) rfl ?_
  refine T_ld zk_191_1588 rfl rfl rfl (pc' := 1589) rfl ?_
  refine T_ld zk_191_1589 rfl rfl rfl (pc' := 1590) rfl ?_
  refine T_op zk_191_1590 rfl X_ic (pc' := 1591) rfl ?_
  refine T_op zk_191_1591 rfl X_add (pc' := 1592) rfl ?_
  refine T_sld (n := n0) (w := p1) zk_191_1592 hx (by omega) (by omega) (by omega) e1 (pc' := 1593) rfl ?_
  refine T_calli (K := fun y1 σ' => (True) ∧ JR σ') (r := []) zk_191_1593 rfl rfl rfl rfl rfl rfl (Or.inr ⟨_, _, _, _, rfl, vd_0, rfl⟩) (fun σ' h => u_112 p1 (by omega) σ' h) (pc' := 1596) rfl (fun y1 => ?_)
  refine G_ex (fun hy1 => ?_)
  refine T_op (st' := []) zk_191_1596 rfl rfl (pc' := 1597) rfl ?_
  refine T_ld zk_191_1597 rfl rfl rfl (pc' := 1598) rfl ?_
  refine T_ld zk_191_1598 rfl rfl rfl (pc' := 1599) rfl ?_
  refine T_ld zk_191_1599 rfl rfl rfl (pc' := 1600) rfl ?_
  refine T_op zk_191_1600 rfl X_ic (pc' := 1601) rfl ?_
  refine T_op zk_191_1601 rfl X_add (pc' := 1602) rfl ?_
  refine T_sld (n := n0) (w := p1) zk_191_1602 hx (by omega) (by omega) (by omega) e1 (pc' := 1603) rfl ?_
  refine T_calli (K := fun y2 σ' => (True) ∧ JR σ') (r := []) zk_191_1603 rfl rfl rfl rfl rfl rfl (Or.inr ⟨_, _, _, _, rfl, vd_35, rfl⟩) (fun σ' h => u_188 p1 (by omega) σ' h) (pc' := 1606) rfl (fun y2 => ?_)
  refine G_ex (fun hy2 => ?_)
  refine T_op (st' := []) zk_191_1606 rfl rfl (pc' := 1607) rfl ?_
  refine T_goto zk_191_1607 ?_
  refine T_iinc (L' := [(0, .ref 0), (1, av 0 0 0), (2, av 35 0 0), (3, iv (i + 6))]) zk_191_1610 (nL := 4) rfl rfl (show _ = some (iv i) from rfl) rfl (pc' := 1613) rfl ?_
  refine T_goto zk_191_1613 ?_
  exact hk
/-- the law, call by call -/
theorem zl_all {xs : Nat × (Nat → Int32)} {n0 : Nat} (hx : xs.1 = n0 + 1) (hn : n0 ≤ 3072) : TJ xs JR 120 191 18 [(0, .ref 0), (1, av 0 0 0), (2, av 35 0 0), (3, iv 0)] [] (fun v _ => v = some (.int 1)) := by
  refine T_loop1 (fun i => ((n0 : Int) - i + 6).toNat) (fun i => 0 ≤ i ∧ i ≤ 4000) (fun i => TJ xs JR 120 191 18 [(0, .ref 0), (1, av 0 0 0), (2, av 35 0 0), (3, iv i)] [] _) ?_ 0 (by omega)
  intro i hi0 ih
  refine T_ld zk_191_18 rfl rfl rfl (pc' := 19) rfl ?_
  refine T_ld zk_191_19 rfl rfl rfl (pc' := 20) rfl ?_
  refine T_slen (n := n0) zk_191_20 hx (pc' := 21) rfl ?_
  refine T_op zk_191_21 rfl (X_bi (v := 6) (by decide)) (pc' := 23) rfl ?_
  refine T_op zk_191_23 rfl X_sub (pc' := 24) rfl ?_
  refine T_icmp_gt zk_191_24 (by omega) (by omega) (pc' := 27) rfl (fun _ => ?_) (fun q => ?_)
  · refine T_op zk_191_1616 rfl X_ic (pc' := 1617) rfl ?_
    exact T_zret zk_191_1617 rfl (by omega) (fun σ' h => rfl)
  have hk := ih (i + 6) (by omega) (by omega)
  obtain ⟨p0, h0, e0⟩ : ∃ p : Int, (-2147483648 ≤ p ∧ p ≤ 2147483647) ∧ xs.2 (Int.toNat (i)) = Int32.ofInt p := ⟨_, ⟨Int32.le_toInt _, Int32.toInt_le _⟩, (I_of _).symm⟩
  obtain ⟨p1, h1, e1⟩ : ∃ p : Int, (-2147483648 ≤ p ∧ p ≤ 2147483647) ∧ xs.2 (Int.toNat (i + 1)) = Int32.ofInt p := ⟨_, ⟨Int32.le_toInt _, Int32.toInt_le _⟩, (I_of _).symm⟩
  obtain ⟨p2, h2, e2⟩ : ∃ p : Int, (-2147483648 ≤ p ∧ p ≤ 2147483647) ∧ xs.2 (Int.toNat (i + 2)) = Int32.ofInt p := ⟨_, ⟨Int32.le_toInt _, Int32.toInt_le _⟩, (I_of _).symm⟩
  obtain ⟨p3, h3, e3⟩ : ∃ p : Int, (-2147483648 ≤ p ∧ p ≤ 2147483647) ∧ xs.2 (Int.toNat (i + 3)) = Int32.ofInt p := ⟨_, ⟨Int32.le_toInt _, Int32.toInt_le _⟩, (I_of _).symm⟩
  obtain ⟨p4, h4, e4⟩ : ∃ p : Int, (-2147483648 ≤ p ∧ p ≤ 2147483647) ∧ xs.2 (Int.toNat (i + 4)) = Int32.ofInt p := ⟨_, ⟨Int32.le_toInt _, Int32.toInt_le _⟩, (I_of _).symm⟩
  obtain ⟨p5, h5, e5⟩ : ∃ p : Int, (-2147483648 ≤ p ∧ p ≤ 2147483647) ∧ xs.2 (Int.toNat (i + 5)) = Int32.ofInt p := ⟨_, ⟨Int32.le_toInt _, Int32.toInt_le _⟩, (I_of _).symm⟩
  refine T_ld zk_191_27 rfl rfl rfl (pc' := 28) rfl ?_
  refine T_ld zk_191_28 rfl rfl rfl (pc' := 29) rfl ?_
  refine T_sld (n := n0) (w := p0) zk_191_29 hx (by omega) (by omega) (by omega) e0 (pc' := 30) rfl ?_
  refine T_op zk_191_30 rfl (X_bi (v := 63) (by decide)) (pc' := 32) rfl ?_
  refine G_unk zk_191_32 rfl (pc' := 33) rfl (fun z hz hz' => ?_)
  by_cases q0 : z = 0
  · subst q0
    refine T_br (t := 200) zk_191_33 rfl rfl rfl (fun _ => rfl) rfl ?_
    exact zl_0 hx i (by omega) p1 p2 p3 p4 p5 h1 h2 h3 h4 h5 e1 e2 e3 e4 e5 hk
  by_cases q1 : z = 1
  · subst q1
    refine T_br (t := 233) zk_191_33 rfl rfl rfl (fun _ => rfl) rfl ?_
    exact zl_1 hx i (by omega) p1 p2 p3 p4 p5 h1 h2 h3 h4 h5 e1 e2 e3 e4 e5 hk
  by_cases q2 : z = 2
  · subst q2
    refine T_br (t := 266) zk_191_33 rfl rfl rfl (fun _ => rfl) rfl ?_
    exact zl_2 hx i (by omega) p1 p2 p3 p4 p5 h1 h2 h3 h4 h5 e1 e2 e3 e4 e5 hk
  by_cases q3 : z = 3
  · subst q3
    refine T_br (t := 325) zk_191_33 rfl rfl rfl (fun _ => rfl) rfl ?_
    exact zl_3 hx i (by omega) p1 p2 p3 p4 p5 h1 h2 h3 h4 h5 e1 e2 e3 e4 e5 hk
  by_cases q4 : z = 4
  · subst q4
    refine T_br (t := 384) zk_191_33 rfl rfl rfl (fun _ => rfl) rfl ?_
    exact zl_4 hx i (by omega) p1 p2 p3 p4 p5 h1 h2 h3 h4 h5 e1 e2 e3 e4 e5 hk
  by_cases q5 : z = 5
  · subst q5
    refine T_br (t := 427) zk_191_33 rfl rfl rfl (fun _ => rfl) rfl ?_
    exact zl_5 hx i (by omega) p1 p2 p3 p4 p5 h1 h2 h3 h4 h5 e1 e2 e3 e4 e5 hk
  by_cases q6 : z = 6
  · subst q6
    refine T_br (t := 450) zk_191_33 rfl rfl rfl (fun _ => rfl) rfl ?_
    exact zl_6 hx i (by omega) p1 p2 p3 p4 p5 h1 h2 h3 h4 h5 e1 e2 e3 e4 e5 hk
  by_cases q7 : z = 7
  · subst q7
    refine T_br (t := 499) zk_191_33 rfl rfl rfl (fun _ => rfl) rfl ?_
    exact zl_7 hx i (by omega) p1 p2 p3 p4 p5 h1 h2 h3 h4 h5 e1 e2 e3 e4 e5 hk
  by_cases q8 : z = 8
  · subst q8
    refine T_br (t := 542) zk_191_33 rfl rfl rfl (fun _ => rfl) rfl ?_
    exact zl_8 hx i (by omega) p1 p2 p3 p4 p5 h1 h2 h3 h4 h5 e1 e2 e3 e4 e5 hk
  by_cases q9 : z = 9
  · subst q9
    refine T_br (t := 615) zk_191_33 rfl rfl rfl (fun _ => rfl) rfl ?_
    exact zl_9 hx i (by omega) p1 p2 p3 p4 p5 h1 h2 h3 h4 h5 e1 e2 e3 e4 e5 hk
  by_cases q10 : z = 10
  · subst q10
    refine T_br (t := 678) zk_191_33 rfl rfl rfl (fun _ => rfl) rfl ?_
    exact zl_10 hx i (by omega) p1 p2 p3 p4 p5 h1 h2 h3 h4 h5 e1 e2 e3 e4 e5 hk
  by_cases q11 : z = 11
  · subst q11
    refine T_br (t := 711) zk_191_33 rfl rfl rfl (fun _ => rfl) rfl ?_
    exact zl_11 hx i (by omega) p1 p2 p3 p4 p5 h1 h2 h3 h4 h5 e1 e2 e3 e4 e5 hk
  by_cases q12 : z = 12
  · subst q12
    refine T_br (t := 744) zk_191_33 rfl rfl rfl (fun _ => rfl) rfl ?_
    exact zl_12 hx i (by omega) p1 p2 p3 p4 p5 h1 h2 h3 h4 h5 e1 e2 e3 e4 e5 hk
  by_cases q13 : z = 13
  · subst q13
    refine T_br (t := 767) zk_191_33 rfl rfl rfl (fun _ => rfl) rfl ?_
    exact zl_13 hx i (by omega) p1 p2 p3 p4 p5 h1 h2 h3 h4 h5 e1 e2 e3 e4 e5 hk
  by_cases q14 : z = 14
  · subst q14
    refine T_br (t := 800) zk_191_33 rfl rfl rfl (fun _ => rfl) rfl ?_
    exact zl_14 hx i (by omega) p1 p2 p3 p4 p5 h1 h2 h3 h4 h5 e1 e2 e3 e4 e5 hk
  by_cases q15 : z = 15
  · subst q15
    refine T_br (t := 849) zk_191_33 rfl rfl rfl (fun _ => rfl) rfl ?_
    exact zl_15 hx i (by omega) p1 p2 p3 p4 p5 h1 h2 h3 h4 h5 e1 e2 e3 e4 e5 hk
  by_cases q16 : z = 16
  · subst q16
    refine T_br (t := 898) zk_191_33 rfl rfl rfl (fun _ => rfl) rfl ?_
    exact zl_16 hx i (by omega) p1 p2 p3 p4 p5 h1 h2 h3 h4 h5 e1 e2 e3 e4 e5 hk
  by_cases q17 : z = 17
  · subst q17
    refine T_br (t := 931) zk_191_33 rfl rfl rfl (fun _ => rfl) rfl ?_
    exact zl_17 hx i (by omega) p1 p2 p3 p4 p5 h1 h2 h3 h4 h5 e1 e2 e3 e4 e5 hk
  by_cases q18 : z = 18
  · subst q18
    refine T_br (t := 954) zk_191_33 rfl rfl rfl (fun _ => rfl) rfl ?_
    exact zl_18 hx i (by omega) p1 p2 p3 p4 p5 h1 h2 h3 h4 h5 e1 e2 e3 e4 e5 hk
  by_cases q19 : z = 19
  · subst q19
    refine T_br (t := 967) zk_191_33 rfl rfl rfl (fun _ => rfl) rfl ?_
    exact zl_19 hx i (by omega) p1 p2 p3 p4 p5 h1 h2 h3 h4 h5 e1 e2 e3 e4 e5 hk
  by_cases q20 : z = 20
  · subst q20
    refine T_br (t := 1016) zk_191_33 rfl rfl rfl (fun _ => rfl) rfl ?_
    exact zl_20 hx i (by omega) p1 p2 p3 p4 p5 h1 h2 h3 h4 h5 e1 e2 e3 e4 e5 hk
  by_cases q21 : z = 21
  · subst q21
    refine T_br (t := 1039) zk_191_33 rfl rfl rfl (fun _ => rfl) rfl ?_
    exact zl_21 hx i (by omega) p1 p2 p3 p4 p5 h1 h2 h3 h4 h5 e1 e2 e3 e4 e5 hk
  by_cases q22 : z = 22
  · subst q22
    refine T_br (t := 1102) zk_191_33 rfl rfl rfl (fun _ => rfl) rfl ?_
    exact zl_22 hx i (by omega) p1 p2 p3 p4 p5 h1 h2 h3 h4 h5 e1 e2 e3 e4 e5 hk
  by_cases q23 : z = 23
  · subst q23
    refine T_br (t := 1135) zk_191_33 rfl rfl rfl (fun _ => rfl) rfl ?_
    exact zl_23 hx i (by omega) p1 p2 p3 p4 p5 h1 h2 h3 h4 h5 e1 e2 e3 e4 e5 hk
  by_cases q24 : z = 24
  · subst q24
    refine T_br (t := 1168) zk_191_33 rfl rfl rfl (fun _ => rfl) rfl ?_
    exact zl_24 hx i (by omega) p1 p2 p3 p4 p5 h1 h2 h3 h4 h5 e1 e2 e3 e4 e5 hk
  by_cases q25 : z = 25
  · subst q25
    refine T_br (t := 1231) zk_191_33 rfl rfl rfl (fun _ => rfl) rfl ?_
    exact zl_25 hx i (by omega) p1 p2 p3 p4 p5 h1 h2 h3 h4 h5 e1 e2 e3 e4 e5 hk
  by_cases q26 : z = 26
  · subst q26
    refine T_br (t := 1264) zk_191_33 rfl rfl rfl (fun _ => rfl) rfl ?_
    exact zl_26 hx i (by omega) p1 p2 p3 p4 p5 h1 h2 h3 h4 h5 e1 e2 e3 e4 e5 hk
  by_cases q27 : z = 27
  · subst q27
    refine T_br (t := 1287) zk_191_33 rfl rfl rfl (fun _ => rfl) rfl ?_
    exact zl_27 hx i (by omega) p1 p2 p3 p4 p5 h1 h2 h3 h4 h5 e1 e2 e3 e4 e5 hk
  by_cases q28 : z = 28
  · subst q28
    refine T_br (t := 1330) zk_191_33 rfl rfl rfl (fun _ => rfl) rfl ?_
    exact zl_28 hx i (by omega) p1 p2 p3 p4 p5 h1 h2 h3 h4 h5 e1 e2 e3 e4 e5 hk
  by_cases q29 : z = 29
  · subst q29
    refine T_br (t := 1363) zk_191_33 rfl rfl rfl (fun _ => rfl) rfl ?_
    exact zl_29 hx i (by omega) p1 p2 p3 p4 p5 h1 h2 h3 h4 h5 e1 e2 e3 e4 e5 hk
  by_cases q30 : z = 30
  · subst q30
    refine T_br (t := 1386) zk_191_33 rfl rfl rfl (fun _ => rfl) rfl ?_
    exact zl_30 hx i (by omega) p1 p2 p3 p4 p5 h1 h2 h3 h4 h5 e1 e2 e3 e4 e5 hk
  by_cases q31 : z = 31
  · subst q31
    refine T_br (t := 1419) zk_191_33 rfl rfl rfl (fun _ => rfl) rfl ?_
    exact zl_31 hx i (by omega) p1 p2 p3 p4 p5 h1 h2 h3 h4 h5 e1 e2 e3 e4 e5 hk
  by_cases q32 : z = 32
  · subst q32
    refine T_br (t := 1452) zk_191_33 rfl rfl rfl (fun _ => rfl) rfl ?_
    exact zl_32 hx i (by omega) p1 p2 p3 p4 p5 h1 h2 h3 h4 h5 e1 e2 e3 e4 e5 hk
  by_cases q33 : z = 33
  · subst q33
    refine T_br (t := 1485) zk_191_33 rfl rfl rfl (fun _ => rfl) rfl ?_
    exact zl_33 hx i (by omega) p1 p2 p3 p4 p5 h1 h2 h3 h4 h5 e1 e2 e3 e4 e5 hk
  by_cases q34 : z = 34
  · subst q34
    refine T_br (t := 1498) zk_191_33 rfl rfl rfl (fun _ => rfl) rfl ?_
    exact zl_34 hx i (by omega) p1 p2 p3 p4 p5 h1 h2 h3 h4 h5 e1 e2 e3 e4 e5 hk
  by_cases q35 : z = 35
  · subst q35
    refine T_br (t := 1511) zk_191_33 rfl rfl rfl (fun _ => rfl) rfl ?_
    exact zl_35 hx i (by omega) p1 p2 p3 p4 p5 h1 h2 h3 h4 h5 e1 e2 e3 e4 e5 hk
  by_cases q36 : z = 36
  · subst q36
    refine T_br (t := 1544) zk_191_33 rfl rfl rfl (fun _ => rfl) rfl ?_
    exact zl_36 hx i (by omega) p1 p2 p3 p4 p5 h1 h2 h3 h4 h5 e1 e2 e3 e4 e5 hk
  by_cases q37 : z = 37
  · subst q37
    refine T_br (t := 1587) zk_191_33 rfl rfl rfl (fun _ => rfl) rfl ?_
    exact zl_37 hx i (by omega) p1 p2 p3 p4 p5 h1 h2 h3 h4 h5 e1 e2 e3 e4 e5 hk
  refine T_tso (t := 1610) zk_191_33 (by omega) (by omega) (by omega) ?_
  refine T_iinc (L' := [(0, .ref 0), (1, av 0 0 0), (2, av 35 0 0), (3, iv (i + 6))]) zk_191_1610 (nL := 4) rfl rfl (show _ = some (iv i) from rfl) rfl (pc' := 1613) rfl ?_
  refine T_goto zk_191_1613 ?_
  exact hk
