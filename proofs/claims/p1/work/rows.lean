section
-- ===== PART A: goes FIRST, ahead of the names: the tables' words, and 'selects' of the private methods out of them =====
/-- a private method of a class that the tables say can be made, by its rows of tables_1 -/
def lw_okq (q : MethodName × Nat) : Prop := (q.1.cls ≠ "java/lang/invoke/MethodHandle" ∧ q.1.cls ≠ "java/lang/invoke/VarHandle") ∧ Cond.instantiable q.1.cls q.2 ∈ tables_1 ∧ Cond.privateMethod q.1 ∈ tables_1 ∧ Cond.instanceMethod q.1 ∈ tables_1
theorem lw_p0 : lw_okq (⟨"WaterCity", "refuse", "(I)I"⟩, 8) := ⟨⟨by decide +kernel, by decide +kernel⟩, List.mem_of_getElem? (i := 17) (by decide +kernel), List.mem_of_getElem? (i := 404) (by decide +kernel), List.mem_of_getElem? (i := 405) (by decide +kernel)⟩
theorem lw_p1 : lw_okq (⟨"WaterCity", "rowRefusal", "(I)I"⟩, 8) := ⟨⟨by decide +kernel, by decide +kernel⟩, List.mem_of_getElem? (i := 17) (by decide +kernel), List.mem_of_getElem? (i := 479) (by decide +kernel), List.mem_of_getElem? (i := 480) (by decide +kernel)⟩
theorem lw_p2 : lw_okq (⟨"WaterCity", "copyRefusal", "(II)I"⟩, 8) := ⟨⟨by decide +kernel, by decide +kernel⟩, List.mem_of_getElem? (i := 17) (by decide +kernel), List.mem_of_getElem? (i := 491) (by decide +kernel), List.mem_of_getElem? (i := 492) (by decide +kernel)⟩
theorem lw_p3 : lw_okq (⟨"WaterCity", "isHouse", "(I)Z"⟩, 8) := ⟨⟨by decide +kernel, by decide +kernel⟩, List.mem_of_getElem? (i := 17) (by decide +kernel), List.mem_of_getElem? (i := 510) (by decide +kernel), List.mem_of_getElem? (i := 511) (by decide +kernel)⟩
theorem lw_p4 : lw_okq (⟨"WaterCity$LawReader", "readMouth", "()Z"⟩, 4) := ⟨⟨by decide +kernel, by decide +kernel⟩, List.mem_of_getElem? (i := 320) (by decide +kernel), List.mem_of_getElem? (i := 568) (by decide +kernel), List.mem_of_getElem? (i := 569) (by decide +kernel)⟩
theorem lw_p5 : lw_okq (⟨"WaterCity$LawReader", "step", "(I)Z"⟩, 4) := ⟨⟨by decide +kernel, by decide +kernel⟩, List.mem_of_getElem? (i := 320) (by decide +kernel), List.mem_of_getElem? (i := 572) (by decide +kernel), List.mem_of_getElem? (i := 573) (by decide +kernel)⟩
theorem lw_p6 : lw_okq (⟨"WaterCity$LawReader", "here", "()I"⟩, 4) := ⟨⟨by decide +kernel, by decide +kernel⟩, List.mem_of_getElem? (i := 320) (by decide +kernel), List.mem_of_getElem? (i := 576) (by decide +kernel), List.mem_of_getElem? (i := 577) (by decide +kernel)⟩
theorem lw_p7 : lw_okq (⟨"WaterCity$LawReader", "readEither", "(I)Z"⟩, 4) := ⟨⟨by decide +kernel, by decide +kernel⟩, List.mem_of_getElem? (i := 320) (by decide +kernel), List.mem_of_getElem? (i := 580) (by decide +kernel), List.mem_of_getElem? (i := 581) (by decide +kernel)⟩
theorem lw_p8 : lw_okq (⟨"WaterCity$LawReader", "readBoth", "(I)Z"⟩, 4) := ⟨⟨by decide +kernel, by decide +kernel⟩, List.mem_of_getElem? (i := 320) (by decide +kernel), List.mem_of_getElem? (i := 584) (by decide +kernel), List.mem_of_getElem? (i := 585) (by decide +kernel)⟩
theorem lw_p9 : lw_okq (⟨"WaterCity$LawReader", "readPart", "(I)Z"⟩, 4) := ⟨⟨by decide +kernel, by decide +kernel⟩, List.mem_of_getElem? (i := 320) (by decide +kernel), List.mem_of_getElem? (i := 588) (by decide +kernel), List.mem_of_getElem? (i := 589) (by decide +kernel)⟩
theorem lw_p10 : lw_okq (⟨"WaterCity$LawReader", "readTest", "()Z"⟩, 4) := ⟨⟨by decide +kernel, by decide +kernel⟩, List.mem_of_getElem? (i := 320) (by decide +kernel), List.mem_of_getElem? (i := 592) (by decide +kernel), List.mem_of_getElem? (i := 593) (by decide +kernel)⟩
theorem lw_p11 : lw_okq (⟨"WaterCity$LawReader", "readNumber", "()I"⟩, 4) := ⟨⟨by decide +kernel, by decide +kernel⟩, List.mem_of_getElem? (i := 320) (by decide +kernel), List.mem_of_getElem? (i := 602) (by decide +kernel), List.mem_of_getElem? (i := 603) (by decide +kernel)⟩
theorem lw_p12 : lw_okq (⟨"WaterCity$City", "keepLaws", "()V"⟩, 20) := ⟨⟨by decide +kernel, by decide +kernel⟩, List.mem_of_getElem? (i := 25) (by decide +kernel), List.mem_of_getElem? (i := 705) (by decide +kernel), List.mem_of_getElem? (i := 706) (by decide +kernel)⟩
theorem lw_p13 : lw_okq (⟨"WaterCity$City", "sailAll", "()V"⟩, 20) := ⟨⟨by decide +kernel, by decide +kernel⟩, List.mem_of_getElem? (i := 25) (by decide +kernel), List.mem_of_getElem? (i := 732) (by decide +kernel), List.mem_of_getElem? (i := 733) (by decide +kernel)⟩
theorem lw_p14 : lw_okq (⟨"WaterCity$City", "sailOne", "(LWaterCity$Boat;)V"⟩, 20) := ⟨⟨by decide +kernel, by decide +kernel⟩, List.mem_of_getElem? (i := 25) (by decide +kernel), List.mem_of_getElem? (i := 736) (by decide +kernel), List.mem_of_getElem? (i := 737) (by decide +kernel)⟩
theorem lw_p15 : lw_okq (⟨"WaterCity", "isBoat", "(I)Z"⟩, 8) := ⟨⟨by decide +kernel, by decide +kernel⟩, List.mem_of_getElem? (i := 17) (by decide +kernel), List.mem_of_getElem? (i := 814) (by decide +kernel), List.mem_of_getElem? (i := 815) (by decide +kernel)⟩
def lw_privs_1 : List (MethodName × Nat) := [(⟨"WaterCity", "refuse", "(I)I"⟩, 8), (⟨"WaterCity", "rowRefusal", "(I)I"⟩, 8), (⟨"WaterCity", "copyRefusal", "(II)I"⟩, 8), (⟨"WaterCity", "isHouse", "(I)Z"⟩, 8), (⟨"WaterCity$LawReader", "readMouth", "()Z"⟩, 4), (⟨"WaterCity$LawReader", "step", "(I)Z"⟩, 4), (⟨"WaterCity$LawReader", "here", "()I"⟩, 4), (⟨"WaterCity$LawReader", "readEither", "(I)Z"⟩, 4), (⟨"WaterCity$LawReader", "readBoth", "(I)Z"⟩, 4), (⟨"WaterCity$LawReader", "readPart", "(I)Z"⟩, 4), (⟨"WaterCity$LawReader", "readTest", "()Z"⟩, 4), (⟨"WaterCity$LawReader", "readNumber", "()I"⟩, 4), (⟨"WaterCity$City", "keepLaws", "()V"⟩, 20), (⟨"WaterCity$City", "sailAll", "()V"⟩, 20), (⟨"WaterCity$City", "sailOne", "(LWaterCity$Boat;)V"⟩, 20), (⟨"WaterCity", "isBoat", "(I)Z"⟩, 8)]
theorem lw_r1 : ∀ q ∈ lw_privs_1, lw_okq q := List.forall_mem_cons.mpr ⟨lw_p0, List.forall_mem_cons.mpr ⟨lw_p1, List.forall_mem_cons.mpr ⟨lw_p2, List.forall_mem_cons.mpr ⟨lw_p3, List.forall_mem_cons.mpr ⟨lw_p4, List.forall_mem_cons.mpr ⟨lw_p5, List.forall_mem_cons.mpr ⟨lw_p6, List.forall_mem_cons.mpr ⟨lw_p7, List.forall_mem_cons.mpr ⟨lw_p8, List.forall_mem_cons.mpr ⟨lw_p9, List.forall_mem_cons.mpr ⟨lw_p10, List.forall_mem_cons.mpr ⟨lw_p11, List.forall_mem_cons.mpr ⟨lw_p12, List.forall_mem_cons.mpr ⟨lw_p13, List.forall_mem_cons.mpr ⟨lw_p14, List.forall_mem_cons.mpr ⟨lw_p15, fun _ h => absurd h List.not_mem_nil⟩⟩⟩⟩⟩⟩⟩⟩⟩⟩⟩⟩⟩⟩⟩⟩
theorem lw_p16 : lw_okq (⟨"WaterCityModel", "no", "(I)I"⟩, 40) := ⟨⟨by decide +kernel, by decide +kernel⟩, List.mem_of_getElem? (i := 877) (by decide +kernel), List.mem_of_getElem? (i := 1011) (by decide +kernel), List.mem_of_getElem? (i := 1012) (by decide +kernel)⟩
theorem lw_p17 : lw_okq (⟨"WaterCityModel", "turns", "(IZ)I"⟩, 40) := ⟨⟨by decide +kernel, by decide +kernel⟩, List.mem_of_getElem? (i := 877) (by decide +kernel), List.mem_of_getElem? (i := 1026) (by decide +kernel), List.mem_of_getElem? (i := 1027) (by decide +kernel)⟩
theorem lw_p18 : lw_okq (⟨"WaterCityModel", "isHouse", "(I)Z"⟩, 40) := ⟨⟨by decide +kernel, by decide +kernel⟩, List.mem_of_getElem? (i := 877) (by decide +kernel), List.mem_of_getElem? (i := 1069) (by decide +kernel), List.mem_of_getElem? (i := 1070) (by decide +kernel)⟩
theorem lw_p19 : lw_okq (⟨"WaterCityModel", "wants", "(I)I"⟩, 40) := ⟨⟨by decide +kernel, by decide +kernel⟩, List.mem_of_getElem? (i := 877) (by decide +kernel), List.mem_of_getElem? (i := 1085) (by decide +kernel), List.mem_of_getElem? (i := 1086) (by decide +kernel)⟩
theorem lw_p20 : lw_okq (⟨"WaterCityModel", "seaOf", "(IZ)I"⟩, 40) := ⟨⟨by decide +kernel, by decide +kernel⟩, List.mem_of_getElem? (i := 877) (by decide +kernel), List.mem_of_getElem? (i := 1097) (by decide +kernel), List.mem_of_getElem? (i := 1098) (by decide +kernel)⟩
theorem lw_p21 : lw_okq (⟨"WaterCityModel", "compiles", "(II)I"⟩, 40) := ⟨⟨by decide +kernel, by decide +kernel⟩, List.mem_of_getElem? (i := 877) (by decide +kernel), List.mem_of_getElem? (i := 1109) (by decide +kernel), List.mem_of_getElem? (i := 1110) (by decide +kernel)⟩
theorem lw_p22 : lw_okq (⟨"WaterCityModel", "is", "(I)Z"⟩, 40) := ⟨⟨by decide +kernel, by decide +kernel⟩, List.mem_of_getElem? (i := 877) (by decide +kernel), List.mem_of_getElem? (i := 1113) (by decide +kernel), List.mem_of_getElem? (i := 1114) (by decide +kernel)⟩
theorem lw_p23 : lw_okq (⟨"WaterCityModel", "letter", "()I"⟩, 40) := ⟨⟨by decide +kernel, by decide +kernel⟩, List.mem_of_getElem? (i := 877) (by decide +kernel), List.mem_of_getElem? (i := 1117) (by decide +kernel), List.mem_of_getElem? (i := 1118) (by decide +kernel)⟩
theorem lw_p24 : lw_okq (⟨"WaterCityModel", "reads", "(I)Z"⟩, 40) := ⟨⟨by decide +kernel, by decide +kernel⟩, List.mem_of_getElem? (i := 877) (by decide +kernel), List.mem_of_getElem? (i := 1121) (by decide +kernel), List.mem_of_getElem? (i := 1122) (by decide +kernel)⟩
theorem lw_p25 : lw_okq (⟨"WaterCityModel", "emits", "(II)V"⟩, 40) := ⟨⟨by decide +kernel, by decide +kernel⟩, List.mem_of_getElem? (i := 877) (by decide +kernel), List.mem_of_getElem? (i := 1125) (by decide +kernel), List.mem_of_getElem? (i := 1126) (by decide +kernel)⟩
theorem lw_p26 : lw_okq (⟨"WaterCityModel", "closes", "(I)V"⟩, 40) := ⟨⟨by decide +kernel, by decide +kernel⟩, List.mem_of_getElem? (i := 877) (by decide +kernel), List.mem_of_getElem? (i := 1129) (by decide +kernel), List.mem_of_getElem? (i := 1130) (by decide +kernel)⟩
theorem lw_p27 : lw_okq (⟨"WaterCityModel", "pops", "(IZ)V"⟩, 40) := ⟨⟨by decide +kernel, by decide +kernel⟩, List.mem_of_getElem? (i := 877) (by decide +kernel), List.mem_of_getElem? (i := 1133) (by decide +kernel), List.mem_of_getElem? (i := 1134) (by decide +kernel)⟩
theorem lw_p28 : lw_okq (⟨"WaterCityModel", "isLaw", "(I)Z"⟩, 40) := ⟨⟨by decide +kernel, by decide +kernel⟩, List.mem_of_getElem? (i := 877) (by decide +kernel), List.mem_of_getElem? (i := 1145) (by decide +kernel), List.mem_of_getElem? (i := 1146) (by decide +kernel)⟩
theorem lw_p29 : lw_okq (⟨"WaterCityModel", "isSo", "(I)Z"⟩, 40) := ⟨⟨by decide +kernel, by decide +kernel⟩, List.mem_of_getElem? (i := 877) (by decide +kernel), List.mem_of_getElem? (i := 1153) (by decide +kernel), List.mem_of_getElem? (i := 1154) (by decide +kernel)⟩
theorem lw_p30 : lw_okq (⟨"WaterCityModel", "valueOf", "(I)I"⟩, 40) := ⟨⟨by decide +kernel, by decide +kernel⟩, List.mem_of_getElem? (i := 877) (by decide +kernel), List.mem_of_getElem? (i := 1157) (by decide +kernel), List.mem_of_getElem? (i := 1158) (by decide +kernel)⟩
theorem lw_p31 : lw_okq (⟨"WaterCityModel", "greatest", "()I"⟩, 40) := ⟨⟨by decide +kernel, by decide +kernel⟩, List.mem_of_getElem? (i := 877) (by decide +kernel), List.mem_of_getElem? (i := 1161) (by decide +kernel), List.mem_of_getElem? (i := 1162) (by decide +kernel)⟩
def lw_privs_2 : List (MethodName × Nat) := [(⟨"WaterCityModel", "no", "(I)I"⟩, 40), (⟨"WaterCityModel", "turns", "(IZ)I"⟩, 40), (⟨"WaterCityModel", "isHouse", "(I)Z"⟩, 40), (⟨"WaterCityModel", "wants", "(I)I"⟩, 40), (⟨"WaterCityModel", "seaOf", "(IZ)I"⟩, 40), (⟨"WaterCityModel", "compiles", "(II)I"⟩, 40), (⟨"WaterCityModel", "is", "(I)Z"⟩, 40), (⟨"WaterCityModel", "letter", "()I"⟩, 40), (⟨"WaterCityModel", "reads", "(I)Z"⟩, 40), (⟨"WaterCityModel", "emits", "(II)V"⟩, 40), (⟨"WaterCityModel", "closes", "(I)V"⟩, 40), (⟨"WaterCityModel", "pops", "(IZ)V"⟩, 40), (⟨"WaterCityModel", "isLaw", "(I)Z"⟩, 40), (⟨"WaterCityModel", "isSo", "(I)Z"⟩, 40), (⟨"WaterCityModel", "valueOf", "(I)I"⟩, 40), (⟨"WaterCityModel", "greatest", "()I"⟩, 40)]
theorem lw_r2 : ∀ q ∈ lw_privs_2, lw_okq q := List.forall_mem_cons.mpr ⟨lw_p16, List.forall_mem_cons.mpr ⟨lw_p17, List.forall_mem_cons.mpr ⟨lw_p18, List.forall_mem_cons.mpr ⟨lw_p19, List.forall_mem_cons.mpr ⟨lw_p20, List.forall_mem_cons.mpr ⟨lw_p21, List.forall_mem_cons.mpr ⟨lw_p22, List.forall_mem_cons.mpr ⟨lw_p23, List.forall_mem_cons.mpr ⟨lw_p24, List.forall_mem_cons.mpr ⟨lw_p25, List.forall_mem_cons.mpr ⟨lw_p26, List.forall_mem_cons.mpr ⟨lw_p27, List.forall_mem_cons.mpr ⟨lw_p28, List.forall_mem_cons.mpr ⟨lw_p29, List.forall_mem_cons.mpr ⟨lw_p30, List.forall_mem_cons.mpr ⟨lw_p31, fun _ h => absurd h List.not_mem_nil⟩⟩⟩⟩⟩⟩⟩⟩⟩⟩⟩⟩⟩⟩⟩⟩
theorem lw_p32 : lw_okq (⟨"WaterCityModel", "goals", "()I"⟩, 40) := ⟨⟨by decide +kernel, by decide +kernel⟩, List.mem_of_getElem? (i := 877) (by decide +kernel), List.mem_of_getElem? (i := 1165) (by decide +kernel), List.mem_of_getElem? (i := 1166) (by decide +kernel)⟩
theorem lw_p33 : lw_okq (⟨"WaterCityModel", "isBoat", "(I)Z"⟩, 40) := ⟨⟨by decide +kernel, by decide +kernel⟩, List.mem_of_getElem? (i := 877) (by decide +kernel), List.mem_of_getElem? (i := 1189) (by decide +kernel), List.mem_of_getElem? (i := 1190) (by decide +kernel)⟩
theorem lw_p34 : lw_okq (⟨"WaterCityModel", "step", "(I)I"⟩, 40) := ⟨⟨by decide +kernel, by decide +kernel⟩, List.mem_of_getElem? (i := 877) (by decide +kernel), List.mem_of_getElem? (i := 1197) (by decide +kernel), List.mem_of_getElem? (i := 1198) (by decide +kernel)⟩
theorem lw_p35 : lw_okq (⟨"WaterCityModel", "passes", "(III)Z"⟩, 40) := ⟨⟨by decide +kernel, by decide +kernel⟩, List.mem_of_getElem? (i := 877) (by decide +kernel), List.mem_of_getElem? (i := 1204) (by decide +kernel), List.mem_of_getElem? (i := 1205) (by decide +kernel)⟩
theorem lw_p36 : lw_okq (⟨"WaterCityModel", "waters", "(Z)V"⟩, 40) := ⟨⟨by decide +kernel, by decide +kernel⟩, List.mem_of_getElem? (i := 877) (by decide +kernel), List.mem_of_getElem? (i := 1216) (by decide +kernel), List.mem_of_getElem? (i := 1217) (by decide +kernel)⟩
theorem lw_p37 : lw_okq (⟨"WaterCityModel", "lives", "(Z)V"⟩, 40) := ⟨⟨by decide +kernel, by decide +kernel⟩, List.mem_of_getElem? (i := 877) (by decide +kernel), List.mem_of_getElem? (i := 1220) (by decide +kernel), List.mem_of_getElem? (i := 1221) (by decide +kernel)⟩
theorem lw_p38 : lw_okq (⟨"WaterCityModel", "sailsOn", "(I)V"⟩, 40) := ⟨⟨by decide +kernel, by decide +kernel⟩, List.mem_of_getElem? (i := 877) (by decide +kernel), List.mem_of_getElem? (i := 1224) (by decide +kernel), List.mem_of_getElem? (i := 1225) (by decide +kernel)⟩
theorem lw_p39 : lw_okq (⟨"WaterCityModel", "moves", "([I[I)V"⟩, 40) := ⟨⟨by decide +kernel, by decide +kernel⟩, List.mem_of_getElem? (i := 877) (by decide +kernel), List.mem_of_getElem? (i := 1232) (by decide +kernel), List.mem_of_getElem? (i := 1233) (by decide +kernel)⟩
def lw_privs_3 : List (MethodName × Nat) := [(⟨"WaterCityModel", "goals", "()I"⟩, 40), (⟨"WaterCityModel", "isBoat", "(I)Z"⟩, 40), (⟨"WaterCityModel", "step", "(I)I"⟩, 40), (⟨"WaterCityModel", "passes", "(III)Z"⟩, 40), (⟨"WaterCityModel", "waters", "(Z)V"⟩, 40), (⟨"WaterCityModel", "lives", "(Z)V"⟩, 40), (⟨"WaterCityModel", "sailsOn", "(I)V"⟩, 40), (⟨"WaterCityModel", "moves", "([I[I)V"⟩, 40)]
theorem lw_r3 : ∀ q ∈ lw_privs_3, lw_okq q := List.forall_mem_cons.mpr ⟨lw_p32, List.forall_mem_cons.mpr ⟨lw_p33, List.forall_mem_cons.mpr ⟨lw_p34, List.forall_mem_cons.mpr ⟨lw_p35, List.forall_mem_cons.mpr ⟨lw_p36, List.forall_mem_cons.mpr ⟨lw_p37, List.forall_mem_cons.mpr ⟨lw_p38, List.forall_mem_cons.mpr ⟨lw_p39, fun _ h => absurd h List.not_mem_nil⟩⟩⟩⟩⟩⟩⟩⟩
def lw_privs : List (MethodName × Nat) := lw_privs_1 ++ (lw_privs_2 ++ (lw_privs_3))
def lw_tbl : List Cond := k2_sels lw_privs ++ tables_1
theorem lw_privs_ok : ∀ q ∈ lw_privs, lw_okq q := by
  show ∀ q ∈ lw_privs_1 ++ (lw_privs_2 ++ (lw_privs_3)), lw_okq q
  exact List.forall_mem_append.mpr ⟨lw_r1, List.forall_mem_append.mpr ⟨lw_r2, lw_r3⟩⟩
-- ===== end of PART A =====
def RX0 : String := "WaterCity$Boat"
def TX0 : u_T := fun k => match k with
  | 0 => ("WaterCity$Boat", "cell", "I", false)
  | 1 => ("WaterCity$Boat", "draught", "I", false)
  | 2 => ("WaterCity$Boat", "height", "I", false)
  | 3 => ("WaterCity$Boat", "speed", "I", false)
  | 4 => ("WaterCity$Boat", "rank", "I", false)
  | 5 => ("WaterCity$Boat", "goal", "I", false)
  | 6 => ("WaterCity$Boat", "waited", "I", false)
  | 7 => ("WaterCity$Boat", "arrived", "I", false)
  | 8 => ("WaterCity$Boat", "wore", "I", false)
  | _ => ("WaterCity$Boat", "went", "I", false)
def RX1 : String := "WaterCity$Chart"
def TX1 : u_T := fun k => match k with
  | _ => ("WaterCity$Chart", "beside", "[I", true)
def RX2 : String := "WaterCity$City"
def TX2 : u_T := fun k => match k with
  | 0 => ("WaterCity$City", "lagoon", "LWaterCity$Lagoon;", true)
  | 1 => ("WaterCity$City", "mouths", "LWaterCity$Mouths;", true)
  | 2 => ("WaterCity$City", "laws", "[LWaterCity$Law;", true)
  | 3 => ("WaterCity$City", "houses", "[LWaterCity$House;", true)
  | 4 => ("WaterCity$City", "boats", "[LWaterCity$Boat;", true)
  | 5 => ("WaterCity$City", "lawCount", "I", false)
  | 6 => ("WaterCity$City", "houseCount", "I", false)
  | 7 => ("WaterCity$City", "boatCount", "I", false)
  | 8 => ("WaterCity$City", "sea", "LWaterCity$Tide;", true)
  | 9 => ("WaterCity$City", "forecast", "LWaterCity$Tide;", true)
  | 10 => ("WaterCity$City", "miss", "I", false)
  | 11 => ("WaterCity$City", "limit", "I", false)
  | 12 => ("WaterCity$City", "calm", "I", false)
  | 13 => ("WaterCity$City", "now", "I", false)
  | 14 => ("WaterCity$City", "tooLate", "I", false)
  | 15 => ("WaterCity$City", "inVain", "I", false)
  | 16 => ("WaterCity$City", "came", "I", false)
  | 17 => ("WaterCity$City", "chart", "LWaterCity$Chart;", true)
  | 18 => ("WaterCity$City", "fields", "[I", true)
  | _ => ("WaterCity$City", "crossed", "[Z", true)
def RX3 : String := "WaterCity$House"
def TX3 : u_T := fun k => match k with
  | 0 => ("WaterCity$House", "kind", "I", false)
  | 1 => ("WaterCity$House", "cell", "I", false)
  | 2 => ("WaterCity$House", "floor", "I", false)
  | 3 => ("WaterCity$House", "sink", "I", false)
  | 4 => ("WaterCity$House", "goods", "I", false)
  | 5 => ("WaterCity$House", "sank", "I", false)
  | 6 => ("WaterCity$House", "wetQuarters", "I", false)
  | 7 => ("WaterCity$House", "loss", "I", false)
  | 8 => ("WaterCity$House", "salt", "I", false)
  | _ => ("WaterCity$House", "wet", "Z", false)
def RX4 : String := "WaterCity$Lagoon"
def TX4 : u_T := fun k => match k with
  | 0 => ("WaterCity$Lagoon", "depth", "[I", true)
  | 1 => ("WaterCity$Lagoon", "level", "[I", true)
  | 2 => ("WaterCity$Lagoon", "wall", "[I", true)
  | 3 => ("WaterCity$Lagoon", "ran", "[I", true)
  | 4 => ("WaterCity$Lagoon", "bridge", "[I", true)
  | 5 => ("WaterCity$Lagoon", "closed", "[Z", true)
  | 6 => ("WaterCity$Lagoon", "narrow", "[Z", true)
  | _ => ("WaterCity$Lagoon", "levelBefore", "[I", true)
def RX5 : String := "WaterCity$Law"
def TX5 : u_T := fun k => match k with
  | 0 => ("WaterCity$Law", "mouth", "I", false)
  | 1 => ("WaterCity$Law", "inForce", "Z", false)
  | 2 => ("WaterCity$Law", "length", "I", false)
  | _ => ("WaterCity$Law", "code", "[I", true)
def RX6 : String := "WaterCity$LawReader"
def TX6 : u_T := fun k => match k with
  | 0 => ("WaterCity$LawReader", "draft", "LWaterCity$Law;", true)
  | 1 => ("WaterCity$LawReader", "letters", "[I", true)
  | 2 => ("WaterCity$LawReader", "size", "I", false)
  | _ => ("WaterCity$LawReader", "place", "I", false)
def RX7 : String := "WaterCity$Mouths"
def TX7 : u_T := fun k => match k with
  | 0 => ("WaterCity$Mouths", "count", "I", false)
  | 1 => ("WaterCity$Mouths", "cells", "[I", true)
  | _ => ("WaterCity$Mouths", "shut", "[Z", true)
def RX8 : String := "WaterCity$Shelf"
def TX8 : u_T := fun k => match k with
  | 0 => ("WaterCity$Shelf", "holding", "I", false)
  | 1 => ("WaterCity$Shelf", "sort", "I", false)
  | 2 => ("WaterCity$Shelf", "size", "I", false)
  | 3 => ("WaterCity$Shelf", "house", "I", false)
  | _ => ("WaterCity$Shelf", "elements", "[J", true)
def RX9 : String := "WaterCity$Tide"
def TX9 : u_T := fun k => match k with
  | 0 => ("WaterCity$Tide", "size", "I", false)
  | _ => ("WaterCity$Tide", "heights", "[I", true)
def RX10 : String := "WaterCity"
def TX10 : u_T := fun k => match k with
  | 0 => ("WaterCity", "city", "LWaterCity$City;", true)
  | 1 => ("WaterCity", "kept", "LWaterCity$City;", true)
  | 2 => ("WaterCity", "foreseen", "LWaterCity$City;", true)
  | 3 => ("WaterCity", "hasKept", "Z", false)
  | 4 => ("WaterCity", "shelves", "[LWaterCity$Shelf;", true)
  | 5 => ("WaterCity", "refusals", "[I", true)
  | 6 => ("WaterCity", "reader", "LWaterCity$LawReader;", true)
  | _ => ("WaterCity", "latestFault", "I", false)
def RX11 : String := "WaterCityModel"
def TX11 : u_T := fun k => match k with
  | 0 => ("WaterCityModel", "s", "[I", true)
  | 1 => ("WaterCityModel", "held", "[I", true)
  | 2 => ("WaterCityModel", "kept", "[I", true)
  | 3 => ("WaterCityModel", "hasImage", "Z", false)
  | 4 => ("WaterCityModel", "shelf", "[I", true)
  | 5 => ("WaterCityModel", "sort", "[I", true)
  | 6 => ("WaterCityModel", "size", "[I", true)
  | 7 => ("WaterCityModel", "shown", "[I", true)
  | 8 => ("WaterCityModel", "cells", "[J", true)
  | 9 => ("WaterCityModel", "carried", "[J", true)
  | 10 => ("WaterCityModel", "lawMouth", "[I", true)
  | 11 => ("WaterCityModel", "lawCode", "[I", true)
  | 12 => ("WaterCityModel", "code", "[I", true)
  | 13 => ("WaterCityModel", "field", "[I", true)
  | 14 => ("WaterCityModel", "sign", "[I", true)
  | 15 => ("WaterCityModel", "number", "[I", true)
  | 16 => ("WaterCityModel", "fault", "I", false)
  | 17 => ("WaterCityModel", "refused", "[I", true)
  | 18 => ("WaterCityModel", "ops", "[I", true)
  | 19 => ("WaterCityModel", "at", "I", false)
  | 20 => ("WaterCityModel", "n", "I", false)
  | 21 => ("WaterCityModel", "base", "I", false)
  | 22 => ("WaterCityModel", "codeN", "I", false)
  | 23 => ("WaterCityModel", "tests", "I", false)
  | 24 => ("WaterCityModel", "opsN", "I", false)
  | 25 => ("WaterCityModel", "depth", "I", false)
  | 26 => ("WaterCityModel", "worths", "[I", true)
  | 27 => ("WaterCityModel", "far", "[I", true)
  | 28 => ("WaterCityModel", "queue", "[I", true)
  | 29 => ("WaterCityModel", "flow", "[I", true)
  | 30 => ("WaterCityModel", "went", "[I", true)
  | 31 => ("WaterCityModel", "waits", "I", false)
  | 32 => ("WaterCityModel", "wets", "I", false)
  | 33 => ("WaterCityModel", "topBefore", "I", false)
  | 34 => ("WaterCityModel", "imageMouth", "[I", true)
  | 35 => ("WaterCityModel", "imageCode", "[I", true)
  | 36 => ("WaterCityModel", "imageProgram", "[I", true)
  | 37 => ("WaterCityModel", "imageField", "[I", true)
  | 38 => ("WaterCityModel", "imageSign", "[I", true)
  | _ => ("WaterCityModel", "imageNumber", "[I", true)
abbrev zLawI : Nat := 191
abbrev vwCl : List vw_C := [(RX0, TX0, 10), (RX1, TX1, 1), (RX2, TX2, 20), (RX3, TX3, 10), (RX4, TX4, 8), (RX5, TX5, 4), (RX6, TX6, 4), (RX7, TX7, 3), (RX8, TX8, 5), (RX9, TX9, 2), (RX10, TX10, 8), (RX11, TX11, 40)]
/-- the names of the classes whose methods are walked -/
def zNm (o : Nat) : String := ["WaterCity$Boat", "WaterCity$Chart", "WaterCity$City", "WaterCity$House", "WaterCity$Lagoon", "WaterCity$Law", "WaterCity$LawReader", "WaterCity$Mouths", "WaterCity$Shelf", "WaterCity$Tide", "WaterCity", "WaterCityModel", "java/util/Arrays", "WaterCityLaw"].getD o ""
/-- a method: its class, name, descriptor, locals, answer, where its words stand -/
def zMT : List (Nat × String × String × Nat × Option FieldType × Nat × Nat) := [
  (0, "<init>", "()V", 1, none, 234, 50),
  (0, "launch", "(IIIII)V", 6, none, 734, 50),
  (0, "tell", "(I)I", 2, (some .int), 875, 50),
  (0, "takeBoat", "(LWaterCity$Boat;)V", 2, none, 730, 50),
  (1, "<init>", "()V", 1, none, 159, 47),
  (1, "draw", "(LWaterCity$Lagoon;LWaterCity$Boat;)V", 6, none, 786, 47),
  (1, "spread", "(I)I", 4, (some .int), 804, 47),
  (1, "firstStep", "(II)I", 7, (some .int), 797, 47),
  (1, "leastOf", "(I)I", 2, (some .int), 800, 47),
  (2, "<init>", "()V", 2, none, 68, 42),
  (2, "tide", "(Z)LWaterCity$Tide;", 2, (some (.object "WaterCity$Tide")), 568, 42),
  (2, "lookAround", "()V", 3, none, 677, 42),
  (2, "liveWaters", "(Z)V", 6, none, 742, 42),
  (2, "livePeople", "()V", 3, none, 770, 42),
  (2, "keepLaws", "()V", 5, none, 747, 42),
  (2, "sailAll", "()V", 3, none, 774, 42),
  (2, "sailOne", "(LWaterCity$Boat;)V", 4, none, 778, 42),
  (2, "nextCell", "(LWaterCity$Boat;)I", 2, (some .int), 782, 42),
  (2, "boatsWithGoal", "()I", 3, (some .int), 687, 42),
  (2, "lawsInForce", "()I", 3, (some .int), 909, 42),
  (2, "enforce", "(I)V", 3, none, 738, 42),
  (2, "troubles", "()I", 3, (some .int), 826, 42),
  (2, "takeCity", "(LWaterCity$City;)V", 3, none, 703, 42),
  (3, "<init>", "()V", 1, none, 190, 49),
  (3, "build", "(IIIII)V", 6, none, 726, 49),
  (3, "meet", "(I)V", 2, none, 814, 49),
  (3, "endDay", "(I)V", 2, none, 822, 49),
  (3, "tell", "(I)I", 2, (some .int), 843, 49),
  (3, "takeHouse", "(LWaterCity$House;)V", 2, none, 722, 49),
  (4, "<init>", "()V", 1, none, 74, 43),
  (4, "wayBetween", "(II)I", 4, (some .int), 460, 43),
  (4, "lowEnd", "(I)I", 1, (some .int), 760, 43),
  (4, "highEnd", "(I)I", 1, (some .int), 763, 43),
  (4, "greatestLevel", "()I", 3, (some .int), 683, 43),
  (4, "sumOfLevels", "()I", 3, (some .int), 914, 43),
  (4, "flow", "()V", 5, none, 757, 43),
  (4, "passes", "(LWaterCity$Boat;I)Z", 5, (some .boolean), 791, 43),
  (4, "wear", "(II)I", 4, (some .int), 810, 43),
  (4, "endDay", "(I)V", 3, none, 818, 43),
  (4, "takeLagoon", "(LWaterCity$Lagoon;)V", 3, none, 707, 43),
  (5, "<init>", "()V", 1, none, 168, 48),
  (5, "begin", "()V", 1, none, 606, 48),
  (5, "write", "(I)V", 2, none, 655, 48),
  (5, "writeTest", "(III)V", 4, none, 651, 48),
  (5, "holdsFor", "([I)Z", 7, (some .boolean), 691, 48),
  (5, "testHolds", "(I[I)Z", 4, (some .boolean), 694, 48),
  (5, "takeLaw", "(LWaterCity$Law;)V", 2, none, 660, 48),
  (6, "<init>", "()V", 1, none, 363, 51),
  (6, "read", "(LWaterCity$Shelf;)I", 3, (some .int), 602, 51),
  (6, "here", "()I", 1, (some .int), 618, 51),
  (6, "step", "(I)Z", 2, (some .boolean), 614, 51),
  (6, "readMouth", "()Z", 1, (some .boolean), 610, 51),
  (6, "readEither", "(I)Z", 4, (some .boolean), 622, 51),
  (6, "readBoth", "(I)Z", 4, (some .boolean), 626, 51),
  (6, "readPart", "(I)Z", 3, (some .boolean), 630, 51),
  (6, "readTest", "()Z", 4, (some .boolean), 634, 51),
  (6, "readNumber", "()I", 3, (some .int), 644, 51),
  (6, "isDigit", "(I)Z", 1, (some .boolean), 647, 51),
  (6, "fieldOf", "(I)I", 1, (some .int), 637, 51),
  (6, "signOf", "(I)I", 1, (some .int), 640, 51),
  (7, "<init>", "()V", 1, none, 119, 45),
  (7, "add", "(I)I", 2, (some .int), 495, 45),
  (7, "numberAt", "(I)I", 3, (some .int), 491, 45),
  (7, "shutCount", "()I", 3, (some .int), 753, 45),
  (7, "takeMouths", "(LWaterCity$Mouths;)V", 3, none, 712, 45),
  (8, "<init>", "()V", 1, none, 384, 52),
  (8, "putRow", "(II)V", 3, none, 510, 52),
  (8, "putElement", "(IJ)V", 4, none, 525, 52),
  (8, "hasStretch", "(II)Z", 3, (some .boolean), 537, 52),
  (8, "isMissing", "(I)Z", 2, (some .boolean), 578, 52),
  (9, "<init>", "()V", 1, none, 146, 46),
  (9, "takeRow", "(LWaterCity$Shelf;)V", 4, none, 572, 46),
  (9, "takeTide", "(LWaterCity$Tide;)V", 2, none, 716, 46),
  (9, "heightIn", "(I)I", 2, (some .int), 590, 46),
  (10, "<init>", "()V", 2, none, 60, 41),
  (10, "depth", "(II)I", 4, (some .int), 439, 41),
  (10, "level", "(II)I", 4, (some .int), 453, 41),
  (10, "close", "(IIZ)I", 5, (some .int), 457, 41),
  (10, "narrow", "(IIZ)I", 5, (some .int), 474, 41),
  (10, "bridge", "(III)I", 6, (some .int), 478, 41),
  (10, "dredge", "(II)I", 3, (some .int), 482, 41),
  (10, "mouth", "(I)I", 2, (some .int), 487, 41),
  (10, "gate", "(IZ)I", 3, (some .int), 499, 41),
  (10, "row", "(III)I", 4, (some .int), 503, 41),
  (10, "set", "(IIJ)I", 6, (some .int), 517, 41),
  (10, "copy", "(IIIII)I", 7, (some .int), 529, 41),
  (10, "element", "(II)J", 3, (some .long), 544, 41),
  (10, "show", "(II)I", 3, (some .int), 548, 41),
  (10, "holds", "(I)I", 2, (some .int), 556, 41),
  (10, "harm", "(II)I", 4, (some .int), 560, 41),
  (10, "sea", "(IZ)I", 4, (some .int), 564, 41),
  (10, "seaAt", "(IZ)I", 3, (some .int), 586, 41),
  (10, "rule", "(II)I", 4, (some .int), 594, 41),
  (10, "law", "(I)I", 3, (some .int), 598, 41),
  (10, "fault", "()I", 1, (some .int), 665, 41),
  (10, "force", "(IZ)I", 4, (some .int), 669, 41),
  (10, "says", "(I)I", 2, (some .int), 673, 41),
  (10, "best", "(II)I", 7, (some .int), 699, 41),
  (10, "house", "(IIIII)I", 7, (some .int), 830, 41),
  (10, "raise", "(II)I", 3, (some .int), 835, 41),
  (10, "about", "(II)I", 3, (some .int), 839, 41),
  (10, "boat", "(IIIII)I", 6, (some .int), 847, 41),
  (10, "goal", "(II)I", 4, (some .int), 852, 41),
  (10, "stepOf", "(I)I", 2, (some .int), 860, 41),
  (10, "route", "(III)I", 7, (some .int), 865, 41),
  (10, "sails", "(II)I", 3, (some .int), 871, 41),
  (10, "quarters", "(I)I", 3, (some .int), 879, 41),
  (10, "foretold", "(II)I", 4, (some .int), 883, 41),
  (10, "image", "()I", 1, (some .int), 887, 41),
  (10, "restore", "()I", 2, (some .int), 891, 41),
  (10, "cell", "(II)I", 3, (some .int), 895, 41),
  (10, "way", "(III)I", 5, (some .int), 900, 41),
  (10, "status", "(I)I", 2, (some .int), 904, 41),
  (10, "refuse", "(I)I", 2, (some .int), 446, 41),
  (10, "isWithin", "(III)Z", 3, (some .boolean), 449, 41),
  (10, "isCell", "(I)Z", 1, (some .boolean), 442, 41),
  (10, "isShelf", "(I)Z", 1, (some .boolean), 506, 41),
  (10, "isHouse", "(I)Z", 2, (some .boolean), 552, 41),
  (10, "isBoat", "(I)Z", 2, (some .boolean), 856, 41),
  (10, "rowRefusal", "(I)I", 2, (some .int), 521, 41),
  (10, "copyRefusal", "(II)I", 5, (some .int), 533, 41),
  (10, "turn", "([ZIZ)I", 3, (some .int), 470, 41),
  (11, "<init>", "()V", 2, none, 920, 53),
  (11, "no", "(I)I", 2, (some .int), 1053, 53),
  (11, "isCell", "(I)Z", 1, (some .boolean), 1049, 53),
  (11, "isShelf", "(I)Z", 1, (some .boolean), 1091, 53),
  (11, "way", "(II)I", 4, (some .int), 1064, 53),
  (11, "depth", "(II)I", 4, (some .int), 1046, 53),
  (11, "level", "(II)I", 4, (some .int), 1057, 53),
  (11, "turns", "(IZ)I", 4, (some .int), 1068, 53),
  (11, "close", "(IIZ)I", 5, (some .int), 1061, 53),
  (11, "narrow", "(IIZ)I", 5, (some .int), 1072, 53),
  (11, "bridge", "(III)I", 6, (some .int), 1076, 53),
  (11, "mouth", "(I)I", 3, (some .int), 1080, 53),
  (11, "gate", "(IZ)I", 3, (some .int), 1084, 53),
  (11, "row", "(III)I", 5, (some .int), 1088, 53),
  (11, "set", "(IIJ)I", 5, (some .int), 1095, 53),
  (11, "copy", "(IIIII)I", 7, (some .int), 1099, 53),
  (11, "element", "(II)J", 3, (some .long), 1103, 53),
  (11, "isHouse", "(I)Z", 2, (some .boolean), 1111, 53),
  (11, "show", "(II)I", 3, (some .int), 1107, 53),
  (11, "holds", "(I)I", 2, (some .int), 1115, 53),
  (11, "harm", "(II)I", 3, (some .int), 1119, 53),
  (11, "wants", "(I)I", 2, (some .int), 1127, 53),
  (11, "sea", "(IZ)I", 10, (some .int), 1123, 53),
  (11, "seaOf", "(IZ)I", 4, (some .int), 1139, 53),
  (11, "seaAt", "(IZ)I", 3, (some .int), 1135, 53),
  (11, "rule", "(II)I", 4, (some .int), 1143, 53),
  (11, "letter", "()I", 1, (some .int), 1159, 53),
  (11, "is", "(I)Z", 2, (some .boolean), 1155, 53),
  (11, "reads", "(I)Z", 5, (some .boolean), 1163, 53),
  (11, "emits", "(II)V", 3, none, 1167, 53),
  (11, "closes", "(I)V", 2, none, 1171, 53),
  (11, "pops", "(IZ)V", 3, none, 1175, 53),
  (11, "compiles", "(II)I", 6, (some .int), 1151, 53),
  (11, "law", "(I)I", 4, (some .int), 1147, 53),
  (11, "fault", "()I", 1, (some .int), 1179, 53),
  (11, "isLaw", "(I)Z", 2, (some .boolean), 1187, 53),
  (11, "force", "(IZ)I", 3, (some .int), 1183, 53),
  (11, "greatest", "()I", 3, (some .int), 1203, 53),
  (11, "goals", "()I", 3, (some .int), 1207, 53),
  (11, "valueOf", "(I)I", 5, (some .int), 1199, 53),
  (11, "isSo", "(I)Z", 8, (some .boolean), 1195, 53),
  (11, "says", "(I)I", 2, (some .int), 1191, 53),
  (11, "house", "(IIIII)I", 8, (some .int), 1211, 53),
  (11, "raise", "(II)I", 3, (some .int), 1215, 53),
  (11, "about", "(II)I", 3, (some .int), 1219, 53),
  (11, "isBoat", "(I)Z", 2, (some .boolean), 1231, 53),
  (11, "boat", "(IIIII)I", 8, (some .int), 1223, 53),
  (11, "goal", "(II)I", 4, (some .int), 1227, 53),
  (11, "passes", "(III)Z", 7, (some .boolean), 1246, 53),
  (11, "beside", "(II)I", 2, (some .int), 1242, 53),
  (11, "step", "(I)I", 7, (some .int), 1239, 53),
  (11, "stepOf", "(I)I", 2, (some .int), 1235, 53),
  (11, "sails", "(II)I", 3, (some .int), 1250, 53),
  (11, "waters", "(Z)V", 8, none, 1258, 53),
  (11, "sailsOn", "(I)V", 7, none, 1266, 53),
  (11, "lives", "(Z)V", 6, none, 1262, 53),
  (11, "quarters", "(I)I", 3, (some .int), 1254, 53),
  (11, "moves", "([I[I)V", 4, none, 1274, 53),
  (11, "route", "(III)I", 10, (some .int), 1270, 53),
  (11, "foretold", "(II)I", 4, (some .int), 1278, 53),
  (11, "best", "(II)I", 7, (some .int), 1282, 53),
  (11, "dredge", "(II)I", 3, (some .int), 1286, 53),
  (11, "image", "()I", 2, (some .int), 1290, 53),
  (11, "restore", "()I", 2, (some .int), 1294, 53),
  (11, "cell", "(II)I", 4, (some .int), 1298, 53),
  (11, "way", "(III)I", 5, (some .int), 1303, 53),
  (11, "status", "(I)I", 4, (some .int), 1307, 53),
  (12, "fill", "([JJ)V", 5, none, 513, 44),
  (12, "fill", "([II)V", 4, none, 78, 44),
  (13, "law", "([I)Z", 4, (some .boolean), 0, 40)]
def zFl : List (Nat × Nat × Nat × Nat) := [(0, 9, 0, 5), (0, 15, 0, 0), (0, 18, 0, 1), (0, 21, 0, 2), (0, 24, 0, 3), (0, 27, 0, 4), (0, 30, 0, 6), (0, 33, 0, 7), (0, 36, 0, 8), (0, 39, 0, 9), (1, 9, 1, 0), (2, 12, 2, 0), (2, 21, 2, 1), (2, 27, 2, 2), (2, 33, 2, 3), (2, 39, 2, 4), (2, 46, 2, 8), (2, 50, 2, 9), (2, 53, 2, 11), (2, 60, 2, 17), (2, 64, 2, 18), (2, 68, 2, 19), (2, 75, 2, 13), (2, 88, 2, 10), (2, 111, 2, 15), (2, 114, 7, 0), (2, 117, 7, 2), (2, 120, 7, 1), (2, 123, 4, 1), (2, 126, 2, 16), (2, 135, 2, 6), (2, 138, 3, 1), (2, 145, 3, 9), (2, 149, 2, 14), (2, 152, 2, 12), (2, 159, 2, 5), (2, 162, 5, 1), (2, 165, 5, 0), (2, 172, 2, 7), (2, 175, 0, 4), (2, 178, 0, 5), (2, 189, 0, 0), (2, 193, 4, 6), (2, 196, 0, 6), (2, 199, 0, 9), (2, 202, 0, 8), (2, 205, 0, 3), (2, 214, 0, 7), (2, 224, 3, 6), (3, 9, 3, 0), (3, 15, 3, 1), (3, 18, 3, 2), (3, 21, 3, 3), (3, 24, 3, 4), (3, 27, 3, 5), (3, 30, 3, 6), (3, 33, 3, 7), (3, 36, 3, 8), (3, 39, 3, 9), (4, 9, 4, 0), (4, 15, 4, 1), (4, 18, 4, 2), (4, 21, 4, 3), (4, 24, 4, 4), (4, 27, 4, 5), (4, 31, 4, 6), (4, 34, 4, 7), (4, 72, 0, 1), (4, 78, 0, 2), (5, 9, 5, 3), (5, 15, 5, 1), (5, 19, 5, 2), (5, 33, 5, 0), (6, 12, 6, 0), (6, 18, 6, 1), (6, 22, 8, 2), (6, 28, 6, 2), (6, 29, 8, 4), (6, 33, 6, 3), (6, 54, 5, 0), (7, 9, 7, 1), (7, 15, 7, 2), (7, 19, 7, 0), (8, 9, 8, 0), (8, 15, 8, 4), (8, 19, 8, 1), (8, 22, 8, 2), (9, 9, 9, 1), (9, 15, 8, 2), (9, 21, 9, 0), (9, 22, 8, 4), (10, 10, 10, 0), (10, 16, 10, 1), (10, 19, 10, 2), (10, 24, 10, 4), (10, 28, 10, 5), (10, 35, 10, 6), (10, 39, 10, 7), (10, 56, 2, 0), (10, 60, 4, 0), (10, 65, 4, 1), (10, 68, 2, 16), (10, 75, 4, 5), (10, 83, 4, 6), (10, 86, 4, 4), (10, 94, 2, 1), (10, 103, 7, 0), (10, 109, 7, 2), (10, 122, 8, 2), (10, 136, 8, 4), (10, 146, 8, 0), (10, 152, 8, 3), (10, 155, 8, 1), (10, 158, 2, 3), (10, 162, 3, 0), (10, 167, 3, 7), (10, 170, 3, 8), (10, 173, 3, 6), (10, 189, 2, 10), (10, 192, 2, 11), (10, 195, 2, 12), (10, 202, 2, 5), (10, 205, 2, 2), (10, 209, 6, 0), (10, 219, 5, 1), (10, 226, 2, 18), (10, 252, 2, 6), (10, 259, 3, 2), (10, 265, 2, 7), (10, 268, 2, 4), (10, 280, 0, 5), (10, 283, 0, 0), (10, 290, 2, 17), (10, 304, 2, 13), (10, 307, 10, 3), (10, 311, 4, 2), (10, 314, 4, 3), (10, 326, 2, 14), (10, 329, 2, 15), (11, 7, 11, 0), (11, 13, 11, 1), (11, 16, 11, 2), (11, 19, 11, 4), (11, 22, 11, 5), (11, 25, 11, 6), (11, 28, 11, 7), (11, 31, 11, 8), (11, 35, 11, 9), (11, 38, 11, 10), (11, 41, 11, 11), (11, 44, 11, 12), (11, 47, 11, 13), (11, 50, 11, 14), (11, 53, 11, 15), (11, 56, 11, 16), (11, 60, 11, 17), (11, 63, 11, 18), (11, 66, 11, 26), (11, 69, 11, 27), (11, 72, 11, 28), (11, 75, 11, 29), (11, 78, 11, 30), (11, 81, 11, 34), (11, 84, 11, 35), (11, 87, 11, 36), (11, 90, 11, 37), (11, 93, 11, 38), (11, 96, 11, 39), (11, 137, 11, 19), (11, 140, 11, 20), (11, 143, 11, 21), (11, 153, 11, 23), (11, 156, 11, 22), (11, 159, 11, 24), (11, 162, 11, 25), (11, 211, 11, 33), (11, 214, 11, 31), (11, 220, 11, 32), (11, 234, 11, 3)]
def zCl : List (Nat × Nat × Nat × Nat × Int × String) := [(0, 3, 0, 5, 0, ""), (0, 42, 1, 0, 6, ""), (1, 3, 0, 5, 0, ""), (1, 15, 190, 1, 2, ""), (1, 21, 36, 0, 3, ""), (1, 27, 31, 1, 1, ""), (1, 31, 32, 1, 1, ""), (1, 34, 8, 1, 1, ""), (1, 37, 6, 0, 2, ""), (2, 3, 0, 5, 0, ""), (2, 11, 29, 2, 1, ""), (2, 20, 60, 4, 1, "WaterCity"), (2, 45, 70, 4, 1, "WaterCity"), (2, 59, 4, 4, 1, "WaterCity"), (2, 72, 40, 4, 1, "WaterCity"), (2, 73, 23, 4, 1, "WaterCity"), (2, 74, 0, 4, 1, "WaterCity"), (2, 78, 73, 0, 2, ""), (2, 82, 0, 7, 0, ""), (2, 91, 33, 0, 1, ""), (2, 95, 18, 0, 1, ""), (2, 98, 11, 0, 1, ""), (2, 101, 14, 0, 1, ""), (2, 104, 10, 0, 2, ""), (2, 108, 63, 0, 1, ""), (2, 129, 35, 0, 1, ""), (2, 132, 15, 0, 1, ""), (2, 141, 25, 0, 2, ""), (2, 155, 38, 0, 2, ""), (2, 158, 26, 0, 2, ""), (2, 168, 44, 0, 2, ""), (2, 181, 16, 0, 2, ""), (2, 185, 17, 0, 2, ""), (2, 190, 30, 1, 2, ""), (2, 208, 0, 8, 0, ""), (2, 211, 37, 0, 3, ""), (2, 217, 5, 0, 3, ""), (2, 221, 7, 0, 3, ""), (2, 227, 39, 0, 2, ""), (2, 231, 64, 0, 2, ""), (2, 235, 72, 0, 2, ""), (2, 239, 46, 0, 2, ""), (2, 243, 28, 0, 2, ""), (2, 247, 3, 0, 2, ""), (3, 3, 0, 5, 0, ""), (3, 43, 24, 0, 6, ""), (4, 3, 0, 5, 0, ""), (4, 37, 190, 1, 2, ""), (4, 43, 115, 3, 1, "WaterCity"), (4, 47, 0, 8, 0, ""), (4, 53, 0, 7, 0, ""), (4, 56, 0, 6, 0, ""), (4, 62, 31, 1, 1, ""), (4, 66, 32, 1, 1, ""), (4, 69, 0, 9, 0, ""), (5, 3, 0, 5, 0, ""), (5, 23, 42, 0, 2, ""), (5, 27, 45, 1, 2, ""), (5, 36, 0, 6, 0, ""), (6, 3, 0, 5, 0, ""), (6, 11, 40, 4, 1, "WaterCity"), (6, 36, 41, 0, 1, ""), (6, 39, 51, 0, 1, ""), (6, 43, 52, 0, 2, ""), (6, 47, 49, 0, 1, ""), (6, 51, 50, 0, 2, ""), (6, 57, 53, 0, 2, ""), (6, 60, 42, 0, 2, ""), (6, 64, 54, 0, 2, ""), (6, 67, 55, 0, 1, ""), (6, 70, 58, 1, 1, ""), (6, 74, 59, 1, 1, ""), (6, 77, 56, 0, 1, ""), (6, 80, 43, 0, 4, ""), (6, 84, 57, 1, 1, ""), (7, 3, 0, 5, 0, ""), (8, 3, 0, 5, 0, ""), (8, 25, 189, 1, 2, ""), (9, 3, 0, 5, 0, ""), (9, 26, 0, 8, 0, ""), (9, 32, 0, 7, 0, ""), (9, 35, 69, 0, 2, ""), (9, 39, 0, 6, 0, ""), (10, 1, 0, 5, 0, ""), (10, 9, 9, 2, 1, ""), (10, 34, 47, 4, 1, "WaterCity"), (10, 43, 65, 4, 1, "WaterCity"), (10, 44, 115, 1, 1, ""), (10, 48, 113, 0, 2, ""), (10, 52, 114, 1, 3, ""), (10, 71, 30, 1, 2, ""), (10, 79, 121, 1, 3, ""), (10, 89, 0, 8, 0, ""), (10, 98, 62, 0, 2, ""), (10, 106, 61, 0, 2, ""), (10, 112, 116, 1, 1, ""), (10, 115, 66, 0, 3, ""), (10, 119, 119, 0, 2, ""), (10, 125, 67, 0, 3, ""), (10, 129, 120, 0, 3, ""), (10, 132, 68, 0, 3, ""), (10, 140, 0, 6, 0, ""), (10, 149, 117, 0, 2, ""), (10, 176, 10, 0, 2, ""), (10, 180, 71, 0, 2, ""), (10, 186, 73, 0, 2, ""), (10, 198, 48, 0, 2, ""), (10, 213, 46, 0, 2, ""), (10, 223, 11, 0, 1, ""), (10, 229, 44, 0, 2, ""), (10, 233, 22, 0, 2, ""), (10, 237, 20, 0, 2, ""), (10, 241, 12, 0, 2, ""), (10, 245, 13, 0, 1, ""), (10, 248, 21, 0, 1, ""), (10, 255, 24, 0, 6, ""), (10, 262, 27, 0, 2, ""), (10, 272, 1, 0, 6, ""), (10, 277, 118, 0, 2, ""), (10, 286, 17, 0, 2, ""), (10, 294, 5, 0, 3, ""), (10, 300, 6, 0, 2, ""), (10, 303, 2, 0, 2, ""), (10, 317, 63, 0, 1, ""), (10, 320, 19, 0, 1, ""), (10, 323, 18, 0, 1, ""), (10, 332, 34, 0, 1, ""), (11, 1, 0, 5, 0, ""), (11, 99, 124, 1, 1, ""), (11, 103, 123, 0, 2, ""), (11, 107, 126, 1, 2, ""), (11, 111, 129, 0, 3, ""), (11, 115, 125, 1, 1, ""), (11, 118, 139, 0, 2, ""), (11, 121, 143, 0, 2, ""), (11, 134, 145, 0, 3, ""), (11, 146, 148, 0, 1, ""), (11, 150, 149, 0, 2, ""), (11, 165, 151, 0, 3, ""), (11, 169, 150, 0, 2, ""), (11, 172, 152, 0, 2, ""), (11, 176, 153, 0, 3, ""), (11, 180, 154, 0, 3, ""), (11, 183, 157, 0, 2, ""), (11, 186, 159, 0, 1, ""), (11, 189, 160, 0, 1, ""), (11, 192, 161, 0, 2, ""), (11, 195, 162, 0, 2, ""), (11, 198, 167, 0, 2, ""), (11, 201, 171, 1, 2, ""), (11, 204, 170, 0, 4, ""), (11, 208, 172, 0, 2, ""), (11, 217, 176, 0, 2, ""), (11, 223, 175, 0, 2, ""), (11, 227, 177, 0, 2, ""), (11, 230, 179, 0, 3, ""), (13, 9, 74, 2, 1, ""), (13, 12, 122, 2, 1, ""), (13, 13, 75, 0, 3, ""), (13, 17, 127, 0, 3, ""), (13, 18, 76, 0, 3, ""), (13, 21, 128, 0, 3, ""), (13, 22, 77, 0, 4, ""), (13, 26, 130, 0, 4, ""), (13, 27, 78, 0, 4, ""), (13, 30, 131, 0, 4, ""), (13, 31, 79, 0, 4, ""), (13, 35, 132, 0, 4, ""), (13, 36, 81, 0, 2, ""), (13, 40, 133, 0, 2, ""), (13, 41, 82, 0, 3, ""), (13, 45, 134, 0, 3, ""), (13, 46, 83, 0, 4, ""), (13, 49, 135, 0, 4, ""), (13, 52, 84, 0, 4, ""), (13, 56, 136, 0, 4, ""), (13, 57, 85, 0, 6, ""), (13, 61, 137, 0, 6, ""), (13, 62, 86, 0, 3, ""), (13, 66, 138, 0, 3, ""), (13, 67, 87, 0, 3, ""), (13, 70, 140, 0, 3, ""), (13, 71, 88, 0, 2, ""), (13, 74, 141, 0, 2, ""), (13, 75, 89, 0, 3, ""), (13, 78, 142, 0, 3, ""), (13, 79, 90, 0, 3, ""), (13, 82, 144, 0, 3, ""), (13, 83, 91, 0, 3, ""), (13, 86, 146, 0, 3, ""), (13, 87, 92, 0, 3, ""), (13, 90, 147, 0, 3, ""), (13, 91, 93, 0, 2, ""), (13, 94, 155, 0, 2, ""), (13, 95, 94, 0, 1, ""), (13, 99, 156, 0, 1, ""), (13, 100, 95, 0, 3, ""), (13, 103, 158, 0, 3, ""), (13, 104, 96, 0, 2, ""), (13, 107, 163, 0, 2, ""), (13, 108, 98, 0, 6, ""), (13, 111, 164, 0, 6, ""), (13, 112, 99, 0, 3, ""), (13, 115, 165, 0, 3, ""), (13, 116, 100, 0, 3, ""), (13, 119, 166, 0, 3, ""), (13, 120, 101, 0, 6, ""), (13, 123, 168, 0, 6, ""), (13, 124, 102, 0, 3, ""), (13, 127, 169, 0, 3, ""), (13, 128, 103, 0, 2, ""), (13, 131, 173, 0, 2, ""), (13, 132, 104, 0, 4, ""), (13, 135, 180, 0, 4, ""), (13, 136, 105, 0, 3, ""), (13, 139, 174, 0, 3, ""), (13, 140, 106, 0, 2, ""), (13, 143, 178, 0, 2, ""), (13, 144, 107, 0, 3, ""), (13, 147, 181, 0, 3, ""), (13, 148, 97, 0, 3, ""), (13, 151, 182, 0, 3, ""), (13, 152, 80, 0, 3, ""), (13, 155, 183, 0, 3, ""), (13, 156, 108, 0, 1, ""), (13, 159, 184, 0, 1, ""), (13, 160, 109, 0, 1, ""), (13, 163, 185, 0, 1, ""), (13, 164, 110, 0, 3, ""), (13, 167, 186, 0, 3, ""), (13, 168, 111, 0, 4, ""), (13, 171, 187, 0, 4, ""), (13, 172, 112, 0, 2, ""), (13, 175, 188, 0, 2, "")]
def zNl : List (Nat × Nat × Nat) := [(2, 9, 4), (2, 18, 7), (2, 25, 5), (2, 31, 3), (2, 37, 0), (2, 43, 9), (2, 57, 1), (6, 9, 5), (10, 7, 2), (10, 22, 8), (10, 32, 6), (13, 7, 10), (13, 10, 11)]
def zAl : List (Nat × Nat × Nat) := [(2, 25, 17), (2, 31, 16), (2, 37, 15), (10, 22, 18)]
def zKl : List (Nat × Nat × Int) := [(10, 310, 1000000), (10, 335, -1000001), (11, 238, 1000000), (11, 239, -1000001)]
def zLl : List (Nat × Nat × Int) := [(5, 31, -2), (8, 31, -128), (8, 33, -32768), (8, 35, -2147483648), (8, 37, -9223372036854775808), (11, 124, -128), (11, 126, -32768), (11, 128, -2147483648), (11, 132, -9223372036854775808), (13, 50, 4294967295)]
/-- where the words stand -/
def zFp : List Nat := [247, 236, 239, 241, 243, 245, 250, 252, 254, 256, 161, 279, 281, 283, 285, 287, 295, 296, 299, 311, 313, 315, 303, 297, 307, 122, 127, 125, 83, 310, 291, 195, 209, 305, 301, 289, 174, 171, 293, 246, 248, 237, 94, 251, 257, 255, 244, 253, 202, 192, 194, 196, 198, 199, 200, 201, 204, 206, 208, 79, 81, 84, 86, 88, 90, 92, 95, 240, 242, 177, 173, 176, 172, 367, 369, 391, 370, 396, 371, 170, 124, 126, 121, 386, 395, 388, 392, 149, 390, 148, 397, 411, 412, 413, 415, 416, 417, 418, 280, 80, 82, 309, 91, 93, 89, 282, 123, 128, 393, 398, 387, 394, 389, 286, 193, 205, 207, 203, 298, 300, 302, 290, 284, 368, 175, 314, 292, 197, 294, 288, 249, 238, 312, 304, 414, 85, 87, 306, 308, 922, 923, 924, 926, 927, 928, 929, 930, 931, 932, 933, 934, 935, 936, 937, 938, 939, 940, 948, 949, 950, 951, 952, 956, 957, 958, 959, 960, 961, 941, 942, 943, 945, 944, 946, 947, 955, 953, 954, 925]
def zCp : List (Nat × Nat × Nat) := [(235, 0, 0), (731, 732, 733), (160, 0, 0), (787, 77, 0), (788, 789, 790), (792, 759, 0), (793, 762, 0), (798, 799, 0), (801, 802, 803), (69, 0, 0), (72, 73, 0), (117, 118, 0), (144, 145, 0), (157, 158, 0), (166, 167, 0), (188, 189, 0), (232, 233, 0), (678, 588, 589), (679, 0, 0), (680, 681, 682), (684, 685, 686), (743, 675, 676), (744, 746, 12), (749, 566, 567), (750, 751, 752), (754, 755, 756), (771, 773, 13), (811, 812, 813), (815, 816, 817), (819, 820, 821), (748, 689, 690), (775, 777, 14), (779, 780, 781), (805, 459, 0), (806, 0, 0), (807, 808, 809), (783, 784, 785), (794, 795, 796), (704, 705, 706), (709, 710, 711), (713, 714, 715), (718, 658, 659), (719, 720, 721), (727, 728, 729), (191, 0, 0), (723, 724, 725), (75, 0, 0), (76, 77, 0), (461, 441, 0), (462, 0, 0), (465, 0, 0), (708, 0, 0), (758, 759, 0), (761, 762, 0), (764, 0, 0), (169, 0, 0), (652, 653, 654), (692, 693, 0), (661, 0, 0), (364, 0, 0), (366, 167, 0), (603, 604, 605), (607, 609, 4), (619, 621, 7), (615, 617, 6), (611, 613, 5), (623, 625, 8), (656, 653, 654), (627, 629, 9), (631, 633, 10), (635, 636, 0), (638, 639, 0), (641, 643, 11), (648, 649, 650), (645, 646, 0), (120, 0, 0), (385, 0, 0), (511, 512, 0), (147, 0, 0), (573, 0, 0), (574, 0, 0), (575, 576, 577), (717, 0, 0), (61, 0, 0), (66, 67, 0), (361, 362, 0), (382, 383, 0), (440, 441, 0), (443, 445, 0), (447, 448, 0), (458, 459, 0), (468, 469, 0), (483, 0, 0), (488, 489, 490), (492, 493, 494), (504, 505, 0), (507, 508, 509), (518, 520, 1), (522, 523, 524), (530, 532, 2), (534, 535, 536), (538, 0, 0), (549, 551, 3), (565, 566, 567), (569, 570, 571), (587, 588, 589), (599, 600, 601), (657, 658, 659), (674, 675, 676), (688, 689, 690), (700, 701, 702), (735, 736, 737), (739, 740, 741), (767, 768, 769), (823, 824, 825), (831, 724, 725), (840, 841, 842), (848, 732, 733), (853, 855, 15), (861, 780, 781), (866, 784, 785), (867, 802, 803), (872, 873, 874), (905, 751, 752), (906, 907, 908), (910, 685, 686), (911, 912, 913), (921, 0, 0), (1047, 1048, 0), (1050, 1052, 16), (1062, 1063, 0), (1065, 1067, 17), (1089, 1090, 0), (1108, 1110, 18), (1124, 1126, 19), (1136, 1138, 20), (1156, 1158, 23), (1152, 1154, 22), (1164, 1166, 25), (1160, 1162, 24), (1168, 1170, 26), (1172, 1174, 27), (1148, 1150, 21), (1184, 1186, 28), (1200, 1202, 31), (1204, 1206, 32), (1196, 1198, 30), (1192, 1194, 29), (1228, 1230, 33), (1240, 1241, 0), (1243, 1245, 35), (1236, 1238, 34), (1263, 1265, 38), (1255, 1257, 36), (1259, 1261, 37), (1271, 1273, 39), (58, 59, 0), (918, 919, 0), (436, 437, 438), (1043, 1044, 1045), (450, 451, 452), (1054, 1055, 1056), (454, 455, 456), (1058, 1059, 1060), (471, 472, 473), (1069, 1070, 1071), (475, 476, 477), (1073, 1074, 1075), (484, 485, 486), (1077, 1078, 1079), (496, 497, 498), (1081, 1082, 1083), (500, 501, 502), (1085, 1086, 1087), (514, 515, 516), (1092, 1093, 1094), (526, 527, 528), (1096, 1097, 1098), (541, 542, 543), (1100, 1101, 1102), (545, 546, 547), (1104, 1105, 1106), (553, 554, 555), (1112, 1113, 1114), (557, 558, 559), (1116, 1117, 1118), (561, 562, 563), (1120, 1121, 1122), (583, 584, 585), (1132, 1133, 1134), (591, 592, 593), (1140, 1141, 1142), (595, 596, 597), (1144, 1145, 1146), (662, 663, 664), (1176, 1177, 1178), (666, 667, 668), (1180, 1181, 1182), (670, 671, 672), (1188, 1189, 1190), (827, 828, 829), (1208, 1209, 1210), (832, 833, 834), (1212, 1213, 1214), (836, 837, 838), (1216, 1217, 1218), (844, 845, 846), (1220, 1221, 1222), (849, 850, 851), (1224, 1225, 1226), (857, 858, 859), (1232, 1233, 1234), (862, 863, 864), (1267, 1268, 1269), (868, 869, 870), (1247, 1248, 1249), (876, 877, 878), (1251, 1252, 1253), (880, 881, 882), (1275, 1276, 1277), (696, 697, 698), (1279, 1280, 1281), (479, 480, 481), (1283, 1284, 1285), (884, 885, 886), (1287, 1288, 1289), (888, 889, 890), (1291, 1292, 1293), (892, 893, 894), (1295, 1296, 1297), (897, 898, 899), (1300, 1301, 1302), (901, 902, 903), (1304, 1305, 1306)]
def zNp : List Nat := [70, 115, 136, 138, 140, 142, 155, 365, 64, 357, 359, 56, 916]
def zAp : List Nat := [136, 138, 140, 357]
def zKp : List Nat := [896, 915, 1299, 1308]
def zLp : List Nat := [695, 579, 580, 581, 582, 1128, 1129, 1130, 1131, 1309]
def zXp : List (Nat × Nat × List Nat) := [(231, 50, [258, 260, 262, 264, 266, 268, 270, 272, 274, 276]), (156, 47, [162]), (65, 42, [316, 318, 320, 322, 324, 326, 328, 330, 332, 334, 336, 338, 340, 342, 344, 346, 348, 350, 352, 354]), (187, 49, [210, 212, 214, 216, 218, 220, 222, 224, 226, 228]), (71, 43, [96, 98, 100, 102, 104, 106, 108, 110]), (165, 48, [178, 180, 182, 184]), (360, 51, [372, 374, 376, 378]), (116, 45, [129, 131, 133]), (381, 52, [399, 401, 403, 405, 407]), (143, 46, [150, 152]), (57, 41, [419, 421, 423, 425, 427, 429, 431, 433]), (917, 53, [962, 964, 966, 968, 970, 972, 974, 976, 978, 980, 982, 984, 986, 988, 990, 992, 994, 996, 998, 1000, 1002, 1004, 1006, 1008, 1010, 1012, 1014, 1016, 1018, 1020, 1022, 1024, 1026, 1028, 1030, 1032, 1034, 1036, 1038, 1040])]
def zOp : List Nat := [62, 63, 540, 539, 55, 466, 463, 765, 54, 467, 464, 766]
/-- the fields of a class: 0 an int, 1 a boolean, 2 a reference, 3 a reference that is final, 9 another -/
def zFts : List (List Nat) := [[0, 0, 0, 0, 0, 0, 0, 0, 0, 0], [3], [3, 3, 3, 3, 3, 0, 0, 0, 3, 3, 0, 0, 0, 0, 0, 0, 0, 3, 3, 3], [0, 0, 0, 0, 0, 0, 0, 0, 0, 1], [3, 3, 3, 3, 3, 3, 3, 3], [0, 1, 0, 3], [3, 3, 0, 0], [0, 3, 3], [0, 0, 0, 0, 3], [0, 3], [3, 3, 3, 1, 3, 3, 3, 0], [3, 3, 3, 1, 3, 3, 3, 3, 3, 3, 3, 3, 3, 3, 3, 3, 0, 3, 3, 0, 0, 0, 0, 0, 0, 0, 3, 3, 3, 3, 3, 0, 0, 0, 3, 3, 3, 3, 3, 3]]
/-- an instruction as decoded; what its link names (class and field, method and manner, kind), a constant -/
abbrev zE : Type := Instr × Nat × Nat × Int × Nat
def zC_0 : List (Option zE) := [some (.aload_n 0, 0, 0, 0, 0), some (.invokespecial 3, 0, 5, 0, 0), none, none, some (.aload_n 0, 0, 0, 0, 0), some (.iconst (-1), 0, 0, 0, 0), some (.putfield 9, 0, 5, 0, 0), none, none, some (.return_, 0, 0, 0, 0)]
def zC_1 : List (Option zE) := [some (.aload_n 0, 0, 0, 0, 0), some (.iload_n 1, 0, 0, 0, 0), some (.putfield 15, 0, 0, 0, 1), none, none, some (.aload_n 0, 0, 0, 0, 0), some (.iload_n 2, 0, 0, 0, 0), some (.putfield 18, 0, 1, 0, 2), none, none, some (.aload_n 0, 0, 0, 0, 0), some (.iload_n 3, 0, 0, 0, 0), some (.putfield 21, 0, 2, 0, 3), none, none, some (.aload_n 0, 0, 0, 0, 0), some (.iload 4, 0, 0, 0, 0), none, some (.putfield 24, 0, 3, 0, 4), none, none, some (.aload_n 0, 0, 0, 0, 0), some (.iload 5, 0, 0, 0, 0), none, some (.putfield 27, 0, 4, 0, 5), none, none, some (.aload_n 0, 0, 0, 0, 0), some (.iconst (-1), 0, 0, 0, 0), some (.putfield 9, 0, 5, 0, 0), none, none, some (.aload_n 0, 0, 0, 0, 0), some (.iconst 0, 0, 0, 0, 0), some (.putfield 30, 0, 6, 0, 6), none, none, some (.aload_n 0, 0, 0, 0, 0), some (.iconst 0, 0, 0, 0, 0), some (.putfield 33, 0, 7, 0, 7), none, none, some (.aload_n 0, 0, 0, 0, 0), some (.iconst 0, 0, 0, 0, 0), some (.putfield 36, 0, 8, 0, 8), none, none, some (.aload_n 0, 0, 0, 0, 0), some (.iconst 0, 0, 0, 0, 0), some (.putfield 39, 0, 9, 0, 9), none, none, some (.return_, 0, 0, 0, 0)]
def zC_2 : List (Option zE) := [some (.iload_n 1, 0, 0, 0, 0), some (.tableswitch 69 0 5 #[39, 44, 49, 54, 59, 64], 0, 0, 0, 0), none, none, none, none, none, none, none, none, none, none, none, none, none, none, none, none, none, none, none, none, none, none, none, none, none, none, none, none, none, none, none, none, none, none, none, none, none, none, some (.aload_n 0, 0, 0, 0, 0), some (.getfield 15, 0, 0, 0, 1), none, none, some (.ireturn, 0, 0, 0, 0), some (.aload_n 0, 0, 0, 0, 0), some (.getfield 9, 0, 5, 0, 0), none, none, some (.ireturn, 0, 0, 0, 0), some (.aload_n 0, 0, 0, 0, 0), some (.getfield 30, 0, 6, 0, 6), none, none, some (.ireturn, 0, 0, 0, 0), some (.aload_n 0, 0, 0, 0, 0), some (.getfield 33, 0, 7, 0, 7), none, none, some (.ireturn, 0, 0, 0, 0), some (.aload_n 0, 0, 0, 0, 0), some (.getfield 36, 0, 8, 0, 8), none, none, some (.ireturn, 0, 0, 0, 0), some (.aload_n 0, 0, 0, 0, 0), some (.getfield 39, 0, 9, 0, 9), none, none, some (.ireturn, 0, 0, 0, 0), some (.iconst (-1), 0, 0, 0, 0), some (.ireturn, 0, 0, 0, 0)]
def zC_3 : List (Option zE) := [some (.aload_n 0, 0, 0, 0, 0), some (.aload_n 1, 0, 0, 0, 0), some (.getfield 15, 0, 0, 0, 1), none, none, some (.aload_n 1, 0, 0, 0, 0), some (.getfield 18, 0, 1, 0, 2), none, none, some (.aload_n 1, 0, 0, 0, 0), some (.getfield 21, 0, 2, 0, 3), none, none, some (.aload_n 1, 0, 0, 0, 0), some (.getfield 24, 0, 3, 0, 4), none, none, some (.aload_n 1, 0, 0, 0, 0), some (.getfield 27, 0, 4, 0, 5), none, none, some (.invokevirtual 42, 1, 0, 6, 1), none, none, some (.aload_n 0, 0, 0, 0, 0), some (.aload_n 1, 0, 0, 0, 0), some (.getfield 9, 0, 5, 0, 0), none, none, some (.putfield 9, 0, 5, 0, 0), none, none, some (.aload_n 0, 0, 0, 0, 0), some (.aload_n 1, 0, 0, 0, 0), some (.getfield 30, 0, 6, 0, 6), none, none, some (.putfield 30, 0, 6, 0, 6), none, none, some (.aload_n 0, 0, 0, 0, 0), some (.aload_n 1, 0, 0, 0, 0), some (.getfield 33, 0, 7, 0, 7), none, none, some (.putfield 33, 0, 7, 0, 7), none, none, some (.aload_n 0, 0, 0, 0, 0), some (.aload_n 1, 0, 0, 0, 0), some (.getfield 36, 0, 8, 0, 8), none, none, some (.putfield 36, 0, 8, 0, 8), none, none, some (.aload_n 0, 0, 0, 0, 0), some (.aload_n 1, 0, 0, 0, 0), some (.getfield 39, 0, 9, 0, 9), none, none, some (.putfield 39, 0, 9, 0, 9), none, none, some (.return_, 0, 0, 0, 0)]
def zC_4 : List (Option zE) := [some (.aload_n 0, 0, 0, 0, 0), some (.invokespecial 3, 0, 5, 0, 2), none, none, some (.aload_n 0, 0, 0, 0, 0), some (.bipush 25, 0, 0, 0, 0), none, some (.newarray .int, 12, 0, 0, 0), none, some (.putfield 9, 1, 0, 0, 10), none, none, some (.return_, 0, 0, 0, 0)]
def zC_5 : List (Option zE) := [some (.aload_n 0, 0, 0, 0, 0), some (.getfield 9, 1, 0, 0, 10), none, none, some (.iconst 0, 0, 0, 0, 0), some (.invokestatic 15, 190, 1, 2, 3), none, none, some (.iconst 0, 0, 0, 0, 0), some (.istore_n 3, 0, 0, 0, 0), some (.iload_n 3, 0, 0, 0, 0), some (.bipush 40, 0, 0, 0, 0), none, some (.if_icmp .ge 58, 71, 0, 0, 0), none, none, some (.aload_n 1, 0, 0, 0, 0), some (.aload_n 2, 0, 0, 0, 0), some (.iload_n 3, 0, 0, 0, 0), some (.invokevirtual 21, 36, 0, 3, 4), none, none, some (.ifCond .eq 43, 65, 0, 0, 0), none, none, some (.iload_n 3, 0, 0, 0, 0), some (.invokestatic 27, 31, 1, 1, 5), none, none, some (.istore 4, 0, 0, 0, 0), none, some (.iload_n 3, 0, 0, 0, 0), some (.invokestatic 31, 32, 1, 1, 6), none, none, some (.istore 5, 0, 0, 0, 0), none, some (.aload_n 0, 0, 0, 0, 0), some (.getfield 9, 1, 0, 0, 10), none, none, some (.iload 4, 0, 0, 0, 0), none, some (.dup2, 0, 0, 0, 0), some (.iaload, 0, 0, 0, 0), some (.iconst 1, 0, 0, 0, 0), some (.iload 5, 0, 0, 0, 0), none, some (.ishl, 0, 0, 0, 0), some (.ior, 0, 0, 0, 0), some (.iastore, 0, 0, 0, 0), some (.aload_n 0, 0, 0, 0, 0), some (.getfield 9, 1, 0, 0, 10), none, none, some (.iload 5, 0, 0, 0, 0), none, some (.dup2, 0, 0, 0, 0), some (.iaload, 0, 0, 0, 0), some (.iconst 1, 0, 0, 0, 0), some (.iload 4, 0, 0, 0, 0), none, some (.ishl, 0, 0, 0, 0), some (.ior, 0, 0, 0, 0), some (.iastore, 0, 0, 0, 0), some (.iinc 3 1, 0, 0, 0, 0), none, none, some (.goto (-58), 10, 0, 0, 0), none, none, some (.return_, 0, 0, 0, 0)]
def zC_6 : List (Option zE) := [some (.iload_n 1, 0, 0, 0, 0), some (.istore_n 2, 0, 0, 0, 0), some (.iconst 0, 0, 0, 0, 0), some (.istore_n 3, 0, 0, 0, 0), some (.iload_n 3, 0, 0, 0, 0), some (.bipush 25, 0, 0, 0, 0), none, some (.if_icmp .ge 27, 34, 0, 0, 0), none, none, some (.iload_n 1, 0, 0, 0, 0), some (.iload_n 3, 0, 0, 0, 0), some (.ishr, 0, 0, 0, 0), some (.iconst 1, 0, 0, 0, 0), some (.iand, 0, 0, 0, 0), some (.iconst 1, 0, 0, 0, 0), some (.if_icmp .ne 12, 28, 0, 0, 0), none, none, some (.iload_n 2, 0, 0, 0, 0), some (.aload_n 0, 0, 0, 0, 0), some (.getfield 9, 1, 0, 0, 10), none, none, some (.iload_n 3, 0, 0, 0, 0), some (.iaload, 0, 0, 0, 0), some (.ior, 0, 0, 0, 0), some (.istore_n 2, 0, 0, 0, 0), some (.iinc 3 1, 0, 0, 0, 0), none, none, some (.goto (-27), 4, 0, 0, 0), none, none, some (.iload_n 2, 0, 0, 0, 0), some (.ireturn, 0, 0, 0, 0)]
def zC_7 : List (Option zE) := [some (.iconst 1, 0, 0, 0, 0), some (.iload_n 2, 0, 0, 0, 0), some (.ishl, 0, 0, 0, 0), some (.istore_n 3, 0, 0, 0, 0), some (.iconst 1, 0, 0, 0, 0), some (.istore 4, 0, 0, 0, 0), none, some (.iload 4, 0, 0, 0, 0), none, some (.bipush 25, 0, 0, 0, 0), none, some (.if_icmp .ge 48, 59, 0, 0, 0), none, none, some (.aload_n 0, 0, 0, 0, 0), some (.getfield 9, 1, 0, 0, 10), none, none, some (.iload_n 1, 0, 0, 0, 0), some (.iaload, 0, 0, 0, 0), some (.iload_n 3, 0, 0, 0, 0), some (.iand, 0, 0, 0, 0), some (.istore 5, 0, 0, 0, 0), none, some (.iload 5, 0, 0, 0, 0), none, some (.ifCond .eq 9, 35, 0, 0, 0), none, none, some (.iload 5, 0, 0, 0, 0), none, some (.invokestatic 34, 8, 1, 1, 7), none, none, some (.ireturn, 0, 0, 0, 0), some (.aload_n 0, 0, 0, 0, 0), some (.iload_n 3, 0, 0, 0, 0), some (.invokevirtual 37, 6, 0, 2, 8), none, none, some (.istore 6, 0, 0, 0, 0), none, some (.iload 6, 0, 0, 0, 0), none, some (.iload_n 3, 0, 0, 0, 0), some (.if_icmp .ne 5, 50, 0, 0, 0), none, none, some (.iconst (-1), 0, 0, 0, 0), some (.ireturn, 0, 0, 0, 0), some (.iload 6, 0, 0, 0, 0), none, some (.istore_n 3, 0, 0, 0, 0), some (.iinc 4 1, 0, 0, 0, 0), none, none, some (.goto (-49), 7, 0, 0, 0), none, none, some (.iconst (-1), 0, 0, 0, 0), some (.ireturn, 0, 0, 0, 0)]
def zC_8 : List (Option zE) := [some (.iconst 0, 0, 0, 0, 0), some (.istore_n 1, 0, 0, 0, 0), some (.iload_n 1, 0, 0, 0, 0), some (.bipush 25, 0, 0, 0, 0), none, some (.if_icmp .ge 20, 25, 0, 0, 0), none, none, some (.iload_n 0, 0, 0, 0, 0), some (.iload_n 1, 0, 0, 0, 0), some (.ishr, 0, 0, 0, 0), some (.iconst 1, 0, 0, 0, 0), some (.iand, 0, 0, 0, 0), some (.iconst 1, 0, 0, 0, 0), some (.if_icmp .ne 5, 19, 0, 0, 0), none, none, some (.iload_n 1, 0, 0, 0, 0), some (.ireturn, 0, 0, 0, 0), some (.iinc 1 1, 0, 0, 0, 0), none, none, some (.goto (-20), 2, 0, 0, 0), none, none, some (.iconst (-1), 0, 0, 0, 0), some (.ireturn, 0, 0, 0, 0)]
def zC_9_0 : List (Option zE) := [some (.aload_n 0, 0, 0, 0, 0), some (.invokespecial 3, 0, 5, 0, 9), none, none, some (.aload_n 0, 0, 0, 0, 0), some (.new 9, 4, 0, 0, 0), none, none, some (.dup, 0, 0, 0, 0), some (.invokespecial 11, 29, 2, 1, 10), none, none, some (.putfield 12, 2, 0, 0, 11), none, none, some (.aload_n 0, 0, 0, 0, 0), some (.new 18, 7, 0, 0, 1), none, none, some (.dup, 0, 0, 0, 0), some (.invokespecial 20, 60, 4, 1, 11), none, none, some (.putfield 21, 2, 1, 0, 12), none, none, some (.aload_n 0, 0, 0, 0, 0), some (.iconst 5, 0, 0, 0, 0), some (.anewarray 25, 17, 0, 0, 0), none, none, some (.putfield 27, 2, 2, 0, 13), none, none, some (.aload_n 0, 0, 0, 0, 0), some (.bipush 12, 0, 0, 0, 0), none, some (.anewarray 31, 16, 0, 0, 1), none, none, some (.putfield 33, 2, 3, 0, 14), none, none, some (.aload_n 0, 0, 0, 0, 0), some (.bipush 6, 0, 0, 0, 0), none, some (.anewarray 37, 15, 0, 0, 2), none, none, some (.putfield 39, 2, 4, 0, 15), none, none, some (.aload_n 0, 0, 0, 0, 0), some (.new 43, 9, 0, 0, 5), none, none, some (.dup, 0, 0, 0, 0), some (.invokespecial 45, 70, 4, 1, 12), none, none, some (.putfield 46, 2, 8, 0, 16), none, none, some (.aload_n 0, 0, 0, 0, 0), some (.new 43, 9, 0, 0, 5), none, none, some (.dup, 0, 0, 0, 0), some (.invokespecial 45, 70, 4, 1, 12), none, none, some (.putfield 50, 2, 9, 0, 17), none, none, some (.aload_n 0, 0, 0, 0, 0), some (.bipush 9, 0, 0, 0, 0), none, some (.putfield 53, 2, 11, 0, 18), none, none, some (.aload_n 0, 0, 0, 0, 0), some (.new 57, 1, 0, 0, 6), none, none, some (.dup, 0, 0, 0, 0), some (.invokespecial 59, 4, 4, 1, 13), none, none, some (.putfield 60, 2, 17, 0, 19), none, none, some (.aload_n 0, 0, 0, 0, 0), some (.bipush 6, 0, 0, 0, 0), none, some (.newarray .int, 12, 0, 0, 0), none, some (.putfield 64, 2, 18, 0, 20), none, none, some (.aload_n 0, 0, 0, 0, 0), some (.bipush 40, 0, 0, 0, 0), none, some (.newarray .boolean, 14, 0, 0, 0), none, some (.putfield 68, 2, 19, 0, 21), none, none, some (.iconst 0, 0, 0, 0, 0), some (.istore_n 1, 0, 0, 0, 0), some (.iload_n 1, 0, 0, 0, 0), some (.iconst 5, 0, 0, 0, 0), some (.if_icmp .ge 22, 133, 0, 0, 0), none, none, some (.aload_n 0, 0, 0, 0, 0), some (.getfield 27, 2, 2, 0, 13), none, none, some (.iload_n 1, 0, 0, 0, 0), some (.new 25, 5, 0, 0, 2), none, none, some (.dup, 0, 0, 0, 0), some (.invokespecial 72, 40, 4, 1, 14), none, none, some (.aastore, 0, 0, 0, 0), some (.iinc 1 1, 0, 0, 0, 0), none, none, some (.goto (-21), 109, 0, 0, 0), none, none, some (.iconst 0, 0, 0, 0, 0), some (.istore_n 1, 0, 0, 0, 0), some (.iload_n 1, 0, 0, 0, 0), some (.bipush 12, 0, 0, 0, 0), none, some (.if_icmp .ge 22, 160, 0, 0, 0), none, none, some (.aload_n 0, 0, 0, 0, 0), some (.getfield 33, 2, 3, 0, 14), none, none, some (.iload_n 1, 0, 0, 0, 0), some (.new 31, 3, 0, 0, 3), none, none, some (.dup, 0, 0, 0, 0)]
def zC_9_1 : List (Option zE) := [some (.invokespecial 73, 23, 4, 1, 15), none, none, some (.aastore, 0, 0, 0, 0), some (.iinc 1 1, 0, 0, 0, 0), none, none, some (.goto (-22), 135, 0, 0, 0), none, none, some (.iconst 0, 0, 0, 0, 0), some (.istore_n 1, 0, 0, 0, 0), some (.iload_n 1, 0, 0, 0, 0), some (.bipush 6, 0, 0, 0, 0), none, some (.if_icmp .ge 22, 187, 0, 0, 0), none, none, some (.aload_n 0, 0, 0, 0, 0), some (.getfield 39, 2, 4, 0, 15), none, none, some (.iload_n 1, 0, 0, 0, 0), some (.new 37, 0, 0, 0, 4), none, none, some (.dup, 0, 0, 0, 0), some (.invokespecial 74, 0, 4, 1, 16), none, none, some (.aastore, 0, 0, 0, 0), some (.iinc 1 1, 0, 0, 0, 0), none, none, some (.goto (-22), 162, 0, 0, 0), none, none, some (.return_, 0, 0, 0, 0)]
def zC_9 : List (Option zE) := zC_9_0 ++ (zC_9_1)
def zC_10 : List (Option zE) := [some (.iload_n 1, 0, 0, 0, 0), some (.ifCond .eq 10, 11, 0, 0, 0), none, none, some (.aload_n 0, 0, 0, 0, 0), some (.getfield 50, 2, 9, 0, 17), none, none, some (.goto 7, 15, 0, 0, 0), none, none, some (.aload_n 0, 0, 0, 0, 0), some (.getfield 46, 2, 8, 0, 16), none, none, some (.areturn, 0, 0, 0, 0)]
def zC_11 : List (Option zE) := [some (.aload_n 0, 0, 0, 0, 0), some (.getfield 50, 2, 9, 0, 17), none, none, some (.aload_n 0, 0, 0, 0, 0), some (.getfield 75, 2, 13, 0, 22), none, none, some (.invokevirtual 78, 73, 0, 2, 17), none, none, some (.istore_n 1, 0, 0, 0, 0), some (.iconst 1, 0, 0, 0, 0), some (.istore_n 2, 0, 0, 0, 0), some (.iload_n 2, 0, 0, 0, 0), some (.bipush 8, 0, 0, 0, 0), none, some (.if_icmp .ge 27, 44, 0, 0, 0), none, none, some (.iload_n 1, 0, 0, 0, 0), some (.aload_n 0, 0, 0, 0, 0), some (.getfield 50, 2, 9, 0, 17), none, none, some (.aload_n 0, 0, 0, 0, 0), some (.getfield 75, 2, 13, 0, 22), none, none, some (.iload_n 2, 0, 0, 0, 0), some (.iadd, 0, 0, 0, 0), some (.invokevirtual 78, 73, 0, 2, 17), none, none, some (.invokestatic 82, 0, 7, 0, 18), none, none, some (.istore_n 1, 0, 0, 0, 0), some (.iinc 2 1, 0, 0, 0, 0), none, none, some (.goto (-27), 14, 0, 0, 0), none, none, some (.aload_n 0, 0, 0, 0, 0), some (.getfield 64, 2, 18, 0, 20), none, none, some (.iconst 0, 0, 0, 0, 0), some (.iload_n 1, 0, 0, 0, 0), some (.aload_n 0, 0, 0, 0, 0), some (.getfield 88, 2, 10, 0, 23), none, none, some (.iadd, 0, 0, 0, 0), some (.iastore, 0, 0, 0, 0), some (.aload_n 0, 0, 0, 0, 0), some (.getfield 64, 2, 18, 0, 20), none, none, some (.iconst 1, 0, 0, 0, 0), some (.aload_n 0, 0, 0, 0, 0), some (.getfield 50, 2, 9, 0, 17), none, none, some (.aload_n 0, 0, 0, 0, 0), some (.getfield 75, 2, 13, 0, 22), none, none, some (.invokevirtual 78, 73, 0, 2, 17), none, none, some (.iastore, 0, 0, 0, 0), some (.aload_n 0, 0, 0, 0, 0), some (.getfield 64, 2, 18, 0, 20), none, none, some (.iconst 2, 0, 0, 0, 0), some (.aload_n 0, 0, 0, 0, 0), some (.getfield 12, 2, 0, 0, 11), none, none, some (.invokevirtual 91, 33, 0, 1, 19), none, none, some (.iastore, 0, 0, 0, 0), some (.aload_n 0, 0, 0, 0, 0), some (.getfield 64, 2, 18, 0, 20), none, none, some (.iconst 3, 0, 0, 0, 0), some (.aload_n 0, 0, 0, 0, 0), some (.getfield 75, 2, 13, 0, 22), none, none, some (.iconst 4, 0, 0, 0, 0), some (.idiv, 0, 0, 0, 0), some (.bipush 24, 0, 0, 0, 0), none, some (.irem, 0, 0, 0, 0), some (.iastore, 0, 0, 0, 0), some (.aload_n 0, 0, 0, 0, 0), some (.getfield 64, 2, 18, 0, 20), none, none, some (.iconst 4, 0, 0, 0, 0), some (.aload_n 0, 0, 0, 0, 0), some (.invokevirtual 95, 18, 0, 1, 20), none, none, some (.iastore, 0, 0, 0, 0), some (.aload_n 0, 0, 0, 0, 0), some (.getfield 64, 2, 18, 0, 20), none, none, some (.iconst 5, 0, 0, 0, 0), some (.aload_n 0, 0, 0, 0, 0), some (.getfield 75, 2, 13, 0, 22), none, none, some (.bipush 96, 0, 0, 0, 0), none, some (.idiv, 0, 0, 0, 0), some (.iastore, 0, 0, 0, 0), some (.return_, 0, 0, 0, 0)]
def zC_12 : List (Option zE) := [some (.aload_n 0, 0, 0, 0, 0), some (.invokevirtual 98, 11, 0, 1, 21), none, none, some (.aload_n 0, 0, 0, 0, 0), some (.invokevirtual 101, 14, 0, 1, 22), none, none, some (.aload_n 0, 0, 0, 0, 0), some (.iload_n 1, 0, 0, 0, 0), some (.invokevirtual 104, 10, 0, 2, 23), none, none, some (.aload_n 0, 0, 0, 0, 0), some (.getfield 75, 2, 13, 0, 22), none, none, some (.invokevirtual 78, 73, 0, 2, 17), none, none, some (.istore_n 2, 0, 0, 0, 0), some (.aload_n 0, 0, 0, 0, 0), some (.getfield 21, 2, 1, 0, 12), none, none, some (.invokevirtual 108, 63, 0, 1, 24), none, none, some (.ifCond .le 23, 51, 0, 0, 0), none, none, some (.iload_n 2, 0, 0, 0, 0), some (.aload_n 0, 0, 0, 0, 0), some (.getfield 64, 2, 18, 0, 20), none, none, some (.iconst 2, 0, 0, 0, 0), some (.iaload, 0, 0, 0, 0), some (.if_icmp .gt 13, 51, 0, 0, 0), none, none, some (.aload_n 0, 0, 0, 0, 0), some (.dup, 0, 0, 0, 0), some (.getfield 111, 2, 15, 0, 24), none, none, some (.iconst 1, 0, 0, 0, 0), some (.iadd, 0, 0, 0, 0), some (.putfield 111, 2, 15, 0, 24), none, none, some (.iconst 0, 0, 0, 0, 0), some (.istore_n 3, 0, 0, 0, 0), some (.iload_n 3, 0, 0, 0, 0), some (.aload_n 0, 0, 0, 0, 0), some (.getfield 21, 2, 1, 0, 12), none, none, some (.getfield 114, 7, 0, 0, 25), none, none, some (.if_icmp .ge 74, 135, 0, 0, 0), none, none, some (.aload_n 0, 0, 0, 0, 0), some (.getfield 21, 2, 1, 0, 12), none, none, some (.getfield 117, 7, 2, 0, 26), none, none, some (.iload_n 3, 0, 0, 0, 0), some (.baload, 0, 0, 0, 0), some (.ifCond .ne 56, 129, 0, 0, 0), none, none, some (.aload_n 0, 0, 0, 0, 0), some (.getfield 21, 2, 1, 0, 12), none, none, some (.getfield 120, 7, 1, 0, 27), none, none, some (.iload_n 3, 0, 0, 0, 0), some (.iaload, 0, 0, 0, 0), some (.istore 4, 0, 0, 0, 0), none, some (.iload_n 2, 0, 0, 0, 0), some (.aload_n 0, 0, 0, 0, 0), some (.getfield 12, 2, 0, 0, 11), none, none, some (.getfield 123, 4, 1, 0, 28), none, none, some (.iload 4, 0, 0, 0, 0), none, some (.iaload, 0, 0, 0, 0), some (.isub, 0, 0, 0, 0), some (.iconst 2, 0, 0, 0, 0), some (.idiv, 0, 0, 0, 0), some (.istore 5, 0, 0, 0, 0), none, some (.aload_n 0, 0, 0, 0, 0), some (.getfield 12, 2, 0, 0, 11), none, none, some (.getfield 123, 4, 1, 0, 28), none, none, some (.iload 4, 0, 0, 0, 0), none, some (.dup2, 0, 0, 0, 0), some (.iaload, 0, 0, 0, 0), some (.iload 5, 0, 0, 0, 0), none, some (.iadd, 0, 0, 0, 0), some (.iastore, 0, 0, 0, 0), some (.aload_n 0, 0, 0, 0, 0), some (.dup, 0, 0, 0, 0), some (.getfield 126, 2, 16, 0, 29), none, none, some (.iload 5, 0, 0, 0, 0), none, some (.iadd, 0, 0, 0, 0), some (.putfield 126, 2, 16, 0, 29), none, none, some (.iinc 3 1, 0, 0, 0, 0), none, none, some (.goto (-79), 53, 0, 0, 0), none, none, some (.aload_n 0, 0, 0, 0, 0), some (.getfield 12, 2, 0, 0, 11), none, none, some (.invokevirtual 129, 35, 0, 1, 25), none, none, some (.return_, 0, 0, 0, 0)]
def zC_13_0 : List (Option zE) := [some (.aload_n 0, 0, 0, 0, 0), some (.invokevirtual 132, 15, 0, 1, 26), none, none, some (.iconst 0, 0, 0, 0, 0), some (.istore_n 1, 0, 0, 0, 0), some (.iconst 0, 0, 0, 0, 0), some (.istore_n 2, 0, 0, 0, 0), some (.iload_n 2, 0, 0, 0, 0), some (.aload_n 0, 0, 0, 0, 0), some (.getfield 135, 2, 6, 0, 30), none, none, some (.if_icmp .ge 57, 70, 0, 0, 0), none, none, some (.aload_n 0, 0, 0, 0, 0), some (.getfield 33, 2, 3, 0, 14), none, none, some (.iload_n 2, 0, 0, 0, 0), some (.aaload, 0, 0, 0, 0), some (.aload_n 0, 0, 0, 0, 0), some (.getfield 12, 2, 0, 0, 11), none, none, some (.getfield 123, 4, 1, 0, 28), none, none, some (.aload_n 0, 0, 0, 0, 0), some (.getfield 33, 2, 3, 0, 14), none, none, some (.iload_n 2, 0, 0, 0, 0), some (.aaload, 0, 0, 0, 0), some (.getfield 138, 3, 1, 0, 31), none, none, some (.iaload, 0, 0, 0, 0), some (.invokevirtual 141, 25, 0, 2, 27), none, none, some (.iload_n 1, 0, 0, 0, 0), some (.ifCond .ne 15, 58, 0, 0, 0), none, none, some (.aload_n 0, 0, 0, 0, 0), some (.getfield 33, 2, 3, 0, 14), none, none, some (.iload_n 2, 0, 0, 0, 0), some (.aaload, 0, 0, 0, 0), some (.getfield 145, 3, 9, 0, 32), none, none, some (.ifCond .eq 7, 62, 0, 0, 0), none, none, some (.iconst 1, 0, 0, 0, 0), some (.goto 4, 63, 0, 0, 0), none, none, some (.iconst 0, 0, 0, 0, 0), some (.istore_n 1, 0, 0, 0, 0), some (.iinc 2 1, 0, 0, 0, 0), none, none, some (.goto (-59), 8, 0, 0, 0), none, none, some (.iload_n 1, 0, 0, 0, 0), some (.ifCond .eq 23, 94, 0, 0, 0), none, none, some (.aload_n 0, 0, 0, 0, 0), some (.getfield 21, 2, 1, 0, 12), none, none, some (.invokevirtual 108, 63, 0, 1, 24), none, none, some (.ifCond .ne 13, 94, 0, 0, 0), none, none, some (.aload_n 0, 0, 0, 0, 0), some (.dup, 0, 0, 0, 0), some (.getfield 149, 2, 14, 0, 33), none, none, some (.iconst 1, 0, 0, 0, 0), some (.iadd, 0, 0, 0, 0), some (.putfield 149, 2, 14, 0, 33), none, none, some (.aload_n 0, 0, 0, 0, 0), some (.dup, 0, 0, 0, 0), some (.getfield 75, 2, 13, 0, 22), none, none, some (.iconst 1, 0, 0, 0, 0), some (.iadd, 0, 0, 0, 0), some (.putfield 75, 2, 13, 0, 22), none, none, some (.aload_n 0, 0, 0, 0, 0), some (.getfield 75, 2, 13, 0, 22), none, none, some (.bipush 96, 0, 0, 0, 0), none, some (.irem, 0, 0, 0, 0), some (.ifCond .ne 46, 157, 0, 0, 0), none, none, some (.aload_n 0, 0, 0, 0, 0), some (.getfield 12, 2, 0, 0, 11), none, none, some (.aload_n 0, 0, 0, 0, 0), some (.getfield 152, 2, 12, 0, 34), none, none, some (.invokevirtual 155, 38, 0, 2, 28), none, none, some (.iconst 0, 0, 0, 0, 0), some (.istore_n 2, 0, 0, 0, 0), some (.iload_n 2, 0, 0, 0, 0), some (.aload_n 0, 0, 0, 0, 0), some (.getfield 135, 2, 6, 0, 30), none, none, some (.if_icmp .ge 25, 157, 0, 0, 0), none, none, some (.aload_n 0, 0, 0, 0, 0), some (.getfield 33, 2, 3, 0, 14), none, none, some (.iload_n 2, 0, 0, 0, 0), some (.aaload, 0, 0, 0, 0), some (.aload_n 0, 0, 0, 0, 0), some (.getfield 75, 2, 13, 0, 22), none, none, some (.bipush 96, 0, 0, 0, 0), none, some (.idiv, 0, 0, 0, 0), some (.invokevirtual 158, 26, 0, 2, 29), none]
def zC_13_1 : List (Option zE) := [none, some (.iinc 2 1, 0, 0, 0, 0), none, none, some (.goto (-27), 127, 0, 0, 0), none, none, some (.return_, 0, 0, 0, 0)]
def zC_13 : List (Option zE) := zC_13_0 ++ (zC_13_1)
def zC_14 : List (Option zE) := [some (.iconst 0, 0, 0, 0, 0), some (.istore_n 1, 0, 0, 0, 0), some (.iload_n 1, 0, 0, 0, 0), some (.aload_n 0, 0, 0, 0, 0), some (.getfield 21, 2, 1, 0, 12), none, none, some (.getfield 114, 7, 0, 0, 25), none, none, some (.if_icmp .ge 101, 111, 0, 0, 0), none, none, some (.iconst 0, 0, 0, 0, 0), some (.istore_n 2, 0, 0, 0, 0), some (.iconst 0, 0, 0, 0, 0), some (.istore_n 3, 0, 0, 0, 0), some (.iconst 0, 0, 0, 0, 0), some (.istore 4, 0, 0, 0, 0), none, some (.iload 4, 0, 0, 0, 0), none, some (.aload_n 0, 0, 0, 0, 0), some (.getfield 159, 2, 5, 0, 35), none, none, some (.if_icmp .ge 65, 91, 0, 0, 0), none, none, some (.aload_n 0, 0, 0, 0, 0), some (.getfield 27, 2, 2, 0, 13), none, none, some (.iload 4, 0, 0, 0, 0), none, some (.aaload, 0, 0, 0, 0), some (.getfield 162, 5, 1, 0, 36), none, none, some (.ifCond .eq 46, 85, 0, 0, 0), none, none, some (.aload_n 0, 0, 0, 0, 0), some (.getfield 27, 2, 2, 0, 13), none, none, some (.iload 4, 0, 0, 0, 0), none, some (.aaload, 0, 0, 0, 0), some (.getfield 165, 5, 0, 0, 37), none, none, some (.iload_n 1, 0, 0, 0, 0), some (.if_icmp .ne 32, 85, 0, 0, 0), none, none, some (.iconst 1, 0, 0, 0, 0), some (.istore_n 2, 0, 0, 0, 0), some (.iload_n 3, 0, 0, 0, 0), some (.ifCond .ne 20, 79, 0, 0, 0), none, none, some (.aload_n 0, 0, 0, 0, 0), some (.getfield 27, 2, 2, 0, 13), none, none, some (.iload 4, 0, 0, 0, 0), none, some (.aaload, 0, 0, 0, 0), some (.aload_n 0, 0, 0, 0, 0), some (.getfield 64, 2, 18, 0, 20), none, none, some (.invokevirtual 168, 44, 0, 2, 30), none, none, some (.ifCond .eq 7, 83, 0, 0, 0), none, none, some (.iconst 1, 0, 0, 0, 0), some (.goto 4, 84, 0, 0, 0), none, none, some (.iconst 0, 0, 0, 0, 0), some (.istore_n 3, 0, 0, 0, 0), some (.iinc 4 1, 0, 0, 0, 0), none, none, some (.goto (-68), 20, 0, 0, 0), none, none, some (.iload_n 2, 0, 0, 0, 0), some (.ifCond .eq 13, 105, 0, 0, 0), none, none, some (.aload_n 0, 0, 0, 0, 0), some (.getfield 21, 2, 1, 0, 12), none, none, some (.getfield 117, 7, 2, 0, 26), none, none, some (.iload_n 1, 0, 0, 0, 0), some (.iload_n 3, 0, 0, 0, 0), some (.bastore, 0, 0, 0, 0), some (.iinc 1 1, 0, 0, 0, 0), none, none, some (.goto (-106), 2, 0, 0, 0), none, none, some (.return_, 0, 0, 0, 0)]
def zC_15 : List (Option zE) := [some (.iconst 0, 0, 0, 0, 0), some (.istore_n 1, 0, 0, 0, 0), some (.iload_n 1, 0, 0, 0, 0), some (.bipush 40, 0, 0, 0, 0), none, some (.if_icmp .ge 16, 21, 0, 0, 0), none, none, some (.aload_n 0, 0, 0, 0, 0), some (.getfield 68, 2, 19, 0, 21), none, none, some (.iload_n 1, 0, 0, 0, 0), some (.iconst 0, 0, 0, 0, 0), some (.bastore, 0, 0, 0, 0), some (.iinc 1 1, 0, 0, 0, 0), none, none, some (.goto (-16), 2, 0, 0, 0), none, none, some (.bipush 9, 0, 0, 0, 0), none, some (.istore_n 1, 0, 0, 0, 0), some (.iload_n 1, 0, 0, 0, 0), some (.ifCond .lt 61, 86, 0, 0, 0), none, none, some (.iconst 0, 0, 0, 0, 0), some (.istore_n 2, 0, 0, 0, 0), some (.iload_n 2, 0, 0, 0, 0), some (.aload_n 0, 0, 0, 0, 0), some (.getfield 172, 2, 7, 0, 38), none, none, some (.if_icmp .ge 45, 80, 0, 0, 0), none, none, some (.aload_n 0, 0, 0, 0, 0), some (.getfield 39, 2, 4, 0, 15), none, none, some (.iload_n 2, 0, 0, 0, 0), some (.aaload, 0, 0, 0, 0), some (.getfield 175, 0, 4, 0, 39), none, none, some (.iload_n 1, 0, 0, 0, 0), some (.if_icmp .ne 26, 74, 0, 0, 0), none, none, some (.aload_n 0, 0, 0, 0, 0), some (.getfield 39, 2, 4, 0, 15), none, none, some (.iload_n 2, 0, 0, 0, 0), some (.aaload, 0, 0, 0, 0), some (.getfield 178, 0, 5, 0, 40), none, none, some (.iconst (-1), 0, 0, 0, 0), some (.if_icmp .eq 13, 74, 0, 0, 0), none, none, some (.aload_n 0, 0, 0, 0, 0), some (.aload_n 0, 0, 0, 0, 0), some (.getfield 39, 2, 4, 0, 15), none, none, some (.iload_n 2, 0, 0, 0, 0), some (.aaload, 0, 0, 0, 0), some (.invokevirtual 181, 16, 0, 2, 31), none, none, some (.iinc 2 1, 0, 0, 0, 0), none, none, some (.goto (-47), 30, 0, 0, 0), none, none, some (.iinc 1 (-1), 0, 0, 0, 0), none, none, some (.goto (-59), 24, 0, 0, 0), none, none, some (.return_, 0, 0, 0, 0)]
def zC_16 : List (Option zE) := [some (.aload_n 0, 0, 0, 0, 0), some (.aload_n 1, 0, 0, 0, 0), some (.invokevirtual 185, 17, 0, 2, 32), none, none, some (.istore_n 2, 0, 0, 0, 0), some (.aload_n 1, 0, 0, 0, 0), some (.getfield 189, 0, 0, 0, 41), none, none, some (.iload_n 2, 0, 0, 0, 0), some (.invokestatic 190, 30, 1, 2, 33), none, none, some (.istore_n 3, 0, 0, 0, 0), some (.iload_n 3, 0, 0, 0, 0), some (.iconst (-1), 0, 0, 0, 0), some (.if_icmp .eq 24, 41, 0, 0, 0), none, none, some (.aload_n 0, 0, 0, 0, 0), some (.getfield 12, 2, 0, 0, 11), none, none, some (.getfield 193, 4, 6, 0, 42), none, none, some (.iload_n 3, 0, 0, 0, 0), some (.baload, 0, 0, 0, 0), some (.ifCond .eq 23, 52, 0, 0, 0), none, none, some (.aload_n 0, 0, 0, 0, 0), some (.getfield 68, 2, 19, 0, 21), none, none, some (.iload_n 3, 0, 0, 0, 0), some (.baload, 0, 0, 0, 0), some (.ifCond .eq 14, 52, 0, 0, 0), none, none, some (.aload_n 1, 0, 0, 0, 0), some (.dup, 0, 0, 0, 0), some (.getfield 196, 0, 6, 0, 43), none, none, some (.iconst 1, 0, 0, 0, 0), some (.iadd, 0, 0, 0, 0), some (.putfield 196, 0, 6, 0, 43), none, none, some (.return_, 0, 0, 0, 0), some (.aload_n 0, 0, 0, 0, 0), some (.getfield 68, 2, 19, 0, 21), none, none, some (.iload_n 3, 0, 0, 0, 0), some (.iconst 1, 0, 0, 0, 0), some (.bastore, 0, 0, 0, 0), some (.aload_n 1, 0, 0, 0, 0), some (.iload_n 2, 0, 0, 0, 0), some (.putfield 189, 0, 0, 0, 41), none, none, some (.aload_n 1, 0, 0, 0, 0), some (.dup, 0, 0, 0, 0), some (.getfield 199, 0, 9, 0, 44), none, none, some (.iconst 1, 0, 0, 0, 0), some (.iadd, 0, 0, 0, 0), some (.putfield 199, 0, 9, 0, 44), none, none, some (.aload_n 1, 0, 0, 0, 0), some (.dup, 0, 0, 0, 0), some (.getfield 202, 0, 8, 0, 45), none, none, some (.aload_n 0, 0, 0, 0, 0), some (.getfield 12, 2, 0, 0, 11), none, none, some (.iload_n 2, 0, 0, 0, 0), some (.aload_n 1, 0, 0, 0, 0), some (.getfield 205, 0, 3, 0, 46), none, none, some (.aload_n 0, 0, 0, 0, 0), some (.getfield 53, 2, 11, 0, 18), none, none, some (.invokestatic 208, 0, 8, 0, 34), none, none, some (.invokevirtual 211, 37, 0, 3, 35), none, none, some (.iadd, 0, 0, 0, 0), some (.putfield 202, 0, 8, 0, 45), none, none, some (.iload_n 2, 0, 0, 0, 0), some (.aload_n 1, 0, 0, 0, 0), some (.getfield 178, 0, 5, 0, 40), none, none, some (.if_icmp .ne 18, 125, 0, 0, 0), none, none, some (.aload_n 1, 0, 0, 0, 0), some (.iconst (-1), 0, 0, 0, 0), some (.putfield 178, 0, 5, 0, 40), none, none, some (.aload_n 1, 0, 0, 0, 0), some (.dup, 0, 0, 0, 0), some (.getfield 214, 0, 7, 0, 47), none, none, some (.iconst 1, 0, 0, 0, 0), some (.iadd, 0, 0, 0, 0), some (.putfield 214, 0, 7, 0, 47), none, none, some (.return_, 0, 0, 0, 0)]
def zC_17 : List (Option zE) := [some (.aload_n 1, 0, 0, 0, 0), some (.getfield 178, 0, 5, 0, 40), none, none, some (.iconst (-1), 0, 0, 0, 0), some (.if_icmp .ne 5, 10, 0, 0, 0), none, none, some (.iconst (-1), 0, 0, 0, 0), some (.ireturn, 0, 0, 0, 0), some (.aload_n 0, 0, 0, 0, 0), some (.getfield 60, 2, 17, 0, 19), none, none, some (.aload_n 0, 0, 0, 0, 0), some (.getfield 12, 2, 0, 0, 11), none, none, some (.aload_n 1, 0, 0, 0, 0), some (.invokevirtual 217, 5, 0, 3, 36), none, none, some (.aload_n 0, 0, 0, 0, 0), some (.getfield 60, 2, 17, 0, 19), none, none, some (.aload_n 1, 0, 0, 0, 0), some (.getfield 189, 0, 0, 0, 41), none, none, some (.aload_n 1, 0, 0, 0, 0), some (.getfield 178, 0, 5, 0, 40), none, none, some (.invokevirtual 221, 7, 0, 3, 37), none, none, some (.ireturn, 0, 0, 0, 0)]
def zC_18 : List (Option zE) := [some (.iconst 0, 0, 0, 0, 0), some (.istore_n 1, 0, 0, 0, 0), some (.iconst 0, 0, 0, 0, 0), some (.istore_n 2, 0, 0, 0, 0), some (.iload_n 2, 0, 0, 0, 0), some (.aload_n 0, 0, 0, 0, 0), some (.getfield 172, 2, 7, 0, 38), none, none, some (.if_icmp .ge 25, 34, 0, 0, 0), none, none, some (.aload_n 0, 0, 0, 0, 0), some (.getfield 39, 2, 4, 0, 15), none, none, some (.iload_n 2, 0, 0, 0, 0), some (.aaload, 0, 0, 0, 0), some (.getfield 178, 0, 5, 0, 40), none, none, some (.iconst (-1), 0, 0, 0, 0), some (.if_icmp .eq 6, 28, 0, 0, 0), none, none, some (.iinc 1 1, 0, 0, 0, 0), none, none, some (.iinc 2 1, 0, 0, 0, 0), none, none, some (.goto (-27), 4, 0, 0, 0), none, none, some (.iload_n 1, 0, 0, 0, 0), some (.ireturn, 0, 0, 0, 0)]
def zC_19 : List (Option zE) := [some (.iconst 0, 0, 0, 0, 0), some (.istore_n 1, 0, 0, 0, 0), some (.iconst 0, 0, 0, 0, 0), some (.istore_n 2, 0, 0, 0, 0), some (.iload_n 2, 0, 0, 0, 0), some (.aload_n 0, 0, 0, 0, 0), some (.getfield 159, 2, 5, 0, 35), none, none, some (.if_icmp .ge 24, 33, 0, 0, 0), none, none, some (.aload_n 0, 0, 0, 0, 0), some (.getfield 27, 2, 2, 0, 13), none, none, some (.iload_n 2, 0, 0, 0, 0), some (.aaload, 0, 0, 0, 0), some (.getfield 162, 5, 1, 0, 36), none, none, some (.ifCond .eq 6, 27, 0, 0, 0), none, none, some (.iinc 1 1, 0, 0, 0, 0), none, none, some (.iinc 2 1, 0, 0, 0, 0), none, none, some (.goto (-26), 4, 0, 0, 0), none, none, some (.iload_n 1, 0, 0, 0, 0), some (.ireturn, 0, 0, 0, 0)]
def zC_20 : List (Option zE) := [some (.iconst 0, 0, 0, 0, 0), some (.istore_n 2, 0, 0, 0, 0), some (.iload_n 2, 0, 0, 0, 0), some (.aload_n 0, 0, 0, 0, 0), some (.getfield 159, 2, 5, 0, 35), none, none, some (.if_icmp .ge 32, 39, 0, 0, 0), none, none, some (.aload_n 0, 0, 0, 0, 0), some (.getfield 27, 2, 2, 0, 13), none, none, some (.iload_n 2, 0, 0, 0, 0), some (.aaload, 0, 0, 0, 0), some (.iload_n 1, 0, 0, 0, 0), some (.iload_n 2, 0, 0, 0, 0), some (.ishr, 0, 0, 0, 0), some (.iconst 1, 0, 0, 0, 0), some (.iand, 0, 0, 0, 0), some (.iconst 1, 0, 0, 0, 0), some (.if_icmp .ne 7, 29, 0, 0, 0), none, none, some (.iconst 1, 0, 0, 0, 0), some (.goto 4, 30, 0, 0, 0), none, none, some (.iconst 0, 0, 0, 0, 0), some (.putfield 162, 5, 1, 0, 36), none, none, some (.iinc 2 1, 0, 0, 0, 0), none, none, some (.goto (-34), 2, 0, 0, 0), none, none, some (.return_, 0, 0, 0, 0)]
def zC_21 : List (Option zE) := [some (.iconst 0, 0, 0, 0, 0), some (.istore_n 1, 0, 0, 0, 0), some (.iconst 0, 0, 0, 0, 0), some (.istore_n 2, 0, 0, 0, 0), some (.iload_n 2, 0, 0, 0, 0), some (.aload_n 0, 0, 0, 0, 0), some (.getfield 135, 2, 6, 0, 30), none, none, some (.if_icmp .ge 24, 33, 0, 0, 0), none, none, some (.iload_n 1, 0, 0, 0, 0), some (.bipush 10, 0, 0, 0, 0), none, some (.aload_n 0, 0, 0, 0, 0), some (.getfield 33, 2, 3, 0, 14), none, none, some (.iload_n 2, 0, 0, 0, 0), some (.aaload, 0, 0, 0, 0), some (.getfield 224, 3, 6, 0, 48), none, none, some (.imul, 0, 0, 0, 0), some (.iadd, 0, 0, 0, 0), some (.istore_n 1, 0, 0, 0, 0), some (.iinc 2 1, 0, 0, 0, 0), none, none, some (.goto (-26), 4, 0, 0, 0), none, none, some (.iconst 0, 0, 0, 0, 0), some (.istore_n 2, 0, 0, 0, 0), some (.iload_n 2, 0, 0, 0, 0), some (.aload_n 0, 0, 0, 0, 0), some (.getfield 172, 2, 7, 0, 38), none, none, some (.if_icmp .ge 21, 61, 0, 0, 0), none, none, some (.iload_n 1, 0, 0, 0, 0), some (.aload_n 0, 0, 0, 0, 0), some (.getfield 39, 2, 4, 0, 15), none, none, some (.iload_n 2, 0, 0, 0, 0), some (.aaload, 0, 0, 0, 0), some (.getfield 196, 0, 6, 0, 43), none, none, some (.iadd, 0, 0, 0, 0), some (.istore_n 1, 0, 0, 0, 0), some (.iinc 2 1, 0, 0, 0, 0), none, none, some (.goto (-23), 35, 0, 0, 0), none, none, some (.iload_n 1, 0, 0, 0, 0), some (.ireturn, 0, 0, 0, 0)]
def zC_22_0 : List (Option zE) := [some (.aload_n 0, 0, 0, 0, 0), some (.getfield 12, 2, 0, 0, 11), none, none, some (.aload_n 1, 0, 0, 0, 0), some (.getfield 12, 2, 0, 0, 11), none, none, some (.invokevirtual 227, 39, 0, 2, 38), none, none, some (.aload_n 0, 0, 0, 0, 0), some (.getfield 21, 2, 1, 0, 12), none, none, some (.aload_n 1, 0, 0, 0, 0), some (.getfield 21, 2, 1, 0, 12), none, none, some (.invokevirtual 231, 64, 0, 2, 39), none, none, some (.aload_n 0, 0, 0, 0, 0), some (.getfield 46, 2, 8, 0, 16), none, none, some (.aload_n 1, 0, 0, 0, 0), some (.getfield 46, 2, 8, 0, 16), none, none, some (.invokevirtual 235, 72, 0, 2, 40), none, none, some (.aload_n 0, 0, 0, 0, 0), some (.getfield 50, 2, 9, 0, 17), none, none, some (.aload_n 1, 0, 0, 0, 0), some (.getfield 50, 2, 9, 0, 17), none, none, some (.invokevirtual 235, 72, 0, 2, 40), none, none, some (.aload_n 0, 0, 0, 0, 0), some (.aload_n 1, 0, 0, 0, 0), some (.getfield 159, 2, 5, 0, 35), none, none, some (.putfield 159, 2, 5, 0, 35), none, none, some (.iconst 0, 0, 0, 0, 0), some (.istore_n 2, 0, 0, 0, 0), some (.iload_n 2, 0, 0, 0, 0), some (.aload_n 0, 0, 0, 0, 0), some (.getfield 159, 2, 5, 0, 35), none, none, some (.if_icmp .ge 24, 83, 0, 0, 0), none, none, some (.aload_n 0, 0, 0, 0, 0), some (.getfield 27, 2, 2, 0, 13), none, none, some (.iload_n 2, 0, 0, 0, 0), some (.aaload, 0, 0, 0, 0), some (.aload_n 1, 0, 0, 0, 0), some (.getfield 27, 2, 2, 0, 13), none, none, some (.iload_n 2, 0, 0, 0, 0), some (.aaload, 0, 0, 0, 0), some (.invokevirtual 239, 46, 0, 2, 41), none, none, some (.iinc 2 1, 0, 0, 0, 0), none, none, some (.goto (-26), 54, 0, 0, 0), none, none, some (.aload_n 0, 0, 0, 0, 0), some (.aload_n 1, 0, 0, 0, 0), some (.getfield 135, 2, 6, 0, 30), none, none, some (.putfield 135, 2, 6, 0, 30), none, none, some (.iconst 0, 0, 0, 0, 0), some (.istore_n 2, 0, 0, 0, 0), some (.iload_n 2, 0, 0, 0, 0), some (.aload_n 0, 0, 0, 0, 0), some (.getfield 135, 2, 6, 0, 30), none, none, some (.if_icmp .ge 24, 122, 0, 0, 0), none, none, some (.aload_n 0, 0, 0, 0, 0), some (.getfield 33, 2, 3, 0, 14), none, none, some (.iload_n 2, 0, 0, 0, 0), some (.aaload, 0, 0, 0, 0), some (.aload_n 1, 0, 0, 0, 0), some (.getfield 33, 2, 3, 0, 14), none, none, some (.iload_n 2, 0, 0, 0, 0), some (.aaload, 0, 0, 0, 0), some (.invokevirtual 243, 28, 0, 2, 42), none, none, some (.iinc 2 1, 0, 0, 0, 0), none, none, some (.goto (-26), 93, 0, 0, 0), none, none, some (.aload_n 0, 0, 0, 0, 0), some (.aload_n 1, 0, 0, 0, 0), some (.getfield 172, 2, 7, 0, 38), none, none, some (.putfield 172, 2, 7, 0, 38), none, none, some (.iconst 0, 0, 0, 0, 0), some (.istore_n 2, 0, 0, 0, 0), some (.iload_n 2, 0, 0, 0, 0), some (.aload_n 0, 0, 0, 0, 0), some (.getfield 172, 2, 7, 0, 38), none, none, some (.if_icmp .ge 24, 161, 0, 0, 0), none, none, some (.aload_n 0, 0, 0, 0, 0), some (.getfield 39, 2, 4, 0, 15), none, none, some (.iload_n 2, 0, 0, 0, 0), some (.aaload, 0, 0, 0, 0), some (.aload_n 1, 0, 0, 0, 0), some (.getfield 39, 2, 4, 0, 15), none, none]
def zC_22_1 : List (Option zE) := [some (.iload_n 2, 0, 0, 0, 0), some (.aaload, 0, 0, 0, 0), some (.invokevirtual 247, 3, 0, 2, 43), none, none, some (.iinc 2 1, 0, 0, 0, 0), none, none, some (.goto (-26), 132, 0, 0, 0), none, none, some (.aload_n 0, 0, 0, 0, 0), some (.aload_n 1, 0, 0, 0, 0), some (.getfield 88, 2, 10, 0, 23), none, none, some (.putfield 88, 2, 10, 0, 23), none, none, some (.aload_n 0, 0, 0, 0, 0), some (.aload_n 1, 0, 0, 0, 0), some (.getfield 53, 2, 11, 0, 18), none, none, some (.putfield 53, 2, 11, 0, 18), none, none, some (.aload_n 0, 0, 0, 0, 0), some (.aload_n 1, 0, 0, 0, 0), some (.getfield 152, 2, 12, 0, 34), none, none, some (.putfield 152, 2, 12, 0, 34), none, none, some (.aload_n 0, 0, 0, 0, 0), some (.aload_n 1, 0, 0, 0, 0), some (.getfield 75, 2, 13, 0, 22), none, none, some (.putfield 75, 2, 13, 0, 22), none, none, some (.aload_n 0, 0, 0, 0, 0), some (.aload_n 1, 0, 0, 0, 0), some (.getfield 149, 2, 14, 0, 33), none, none, some (.putfield 149, 2, 14, 0, 33), none, none, some (.aload_n 0, 0, 0, 0, 0), some (.aload_n 1, 0, 0, 0, 0), some (.getfield 111, 2, 15, 0, 24), none, none, some (.putfield 111, 2, 15, 0, 24), none, none, some (.aload_n 0, 0, 0, 0, 0), some (.aload_n 1, 0, 0, 0, 0), some (.getfield 126, 2, 16, 0, 29), none, none, some (.putfield 126, 2, 16, 0, 29), none, none, some (.return_, 0, 0, 0, 0)]
def zC_22 : List (Option zE) := zC_22_0 ++ (zC_22_1)
def zC_23 : List (Option zE) := [some (.aload_n 0, 0, 0, 0, 0), some (.invokespecial 3, 0, 5, 0, 44), none, none, some (.return_, 0, 0, 0, 0)]
def zC_24 : List (Option zE) := [some (.aload_n 0, 0, 0, 0, 0), some (.iload_n 1, 0, 0, 0, 0), some (.putfield 9, 3, 0, 0, 49), none, none, some (.aload_n 0, 0, 0, 0, 0), some (.iload_n 2, 0, 0, 0, 0), some (.putfield 15, 3, 1, 0, 50), none, none, some (.aload_n 0, 0, 0, 0, 0), some (.iload_n 3, 0, 0, 0, 0), some (.putfield 18, 3, 2, 0, 51), none, none, some (.aload_n 0, 0, 0, 0, 0), some (.iload 4, 0, 0, 0, 0), none, some (.putfield 21, 3, 3, 0, 52), none, none, some (.aload_n 0, 0, 0, 0, 0), some (.iload 5, 0, 0, 0, 0), none, some (.putfield 24, 3, 4, 0, 53), none, none, some (.aload_n 0, 0, 0, 0, 0), some (.iconst 0, 0, 0, 0, 0), some (.putfield 27, 3, 5, 0, 54), none, none, some (.aload_n 0, 0, 0, 0, 0), some (.iconst 0, 0, 0, 0, 0), some (.putfield 30, 3, 6, 0, 55), none, none, some (.aload_n 0, 0, 0, 0, 0), some (.iconst 0, 0, 0, 0, 0), some (.putfield 33, 3, 7, 0, 56), none, none, some (.aload_n 0, 0, 0, 0, 0), some (.iconst 0, 0, 0, 0, 0), some (.putfield 36, 3, 8, 0, 57), none, none, some (.aload_n 0, 0, 0, 0, 0), some (.iconst 0, 0, 0, 0, 0), some (.putfield 39, 3, 9, 0, 58), none, none, some (.return_, 0, 0, 0, 0)]
def zC_25 : List (Option zE) := [some (.aload_n 0, 0, 0, 0, 0), some (.iload_n 1, 0, 0, 0, 0), some (.aload_n 0, 0, 0, 0, 0), some (.getfield 18, 3, 2, 0, 51), none, none, some (.aload_n 0, 0, 0, 0, 0), some (.getfield 27, 3, 5, 0, 54), none, none, some (.isub, 0, 0, 0, 0), some (.if_icmp .le 7, 18, 0, 0, 0), none, none, some (.iconst 1, 0, 0, 0, 0), some (.goto 4, 19, 0, 0, 0), none, none, some (.iconst 0, 0, 0, 0, 0), some (.putfield 39, 3, 9, 0, 58), none, none, some (.aload_n 0, 0, 0, 0, 0), some (.getfield 39, 3, 9, 0, 58), none, none, some (.ifCond .eq 63, 89, 0, 0, 0), none, none, some (.aload_n 0, 0, 0, 0, 0), some (.dup, 0, 0, 0, 0), some (.getfield 30, 3, 6, 0, 55), none, none, some (.iconst 1, 0, 0, 0, 0), some (.iadd, 0, 0, 0, 0), some (.putfield 30, 3, 6, 0, 55), none, none, some (.aload_n 0, 0, 0, 0, 0), some (.dup, 0, 0, 0, 0), some (.getfield 33, 3, 7, 0, 56), none, none, some (.aload_n 0, 0, 0, 0, 0), some (.getfield 9, 3, 0, 0, 49), none, none, some (.iconst 1, 0, 0, 0, 0), some (.if_icmp .ne 10, 59, 0, 0, 0), none, none, some (.aload_n 0, 0, 0, 0, 0), some (.getfield 24, 3, 4, 0, 53), none, none, some (.goto 4, 60, 0, 0, 0), none, none, some (.iconst 0, 0, 0, 0, 0), some (.iadd, 0, 0, 0, 0), some (.putfield 33, 3, 7, 0, 56), none, none, some (.aload_n 0, 0, 0, 0, 0), some (.dup, 0, 0, 0, 0), some (.getfield 36, 3, 8, 0, 57), none, none, some (.aload_n 0, 0, 0, 0, 0), some (.getfield 9, 3, 0, 0, 49), none, none, some (.iconst 2, 0, 0, 0, 0), some (.if_icmp .ne 7, 81, 0, 0, 0), none, none, some (.iconst 2, 0, 0, 0, 0), some (.goto 4, 82, 0, 0, 0), none, none, some (.iconst 0, 0, 0, 0, 0), some (.iadd, 0, 0, 0, 0), some (.putfield 36, 3, 8, 0, 57), none, none, some (.goto 20, 106, 0, 0, 0), none, none, some (.aload_n 0, 0, 0, 0, 0), some (.getfield 36, 3, 8, 0, 57), none, none, some (.ifCond .le 13, 106, 0, 0, 0), none, none, some (.aload_n 0, 0, 0, 0, 0), some (.dup, 0, 0, 0, 0), some (.getfield 36, 3, 8, 0, 57), none, none, some (.iconst 1, 0, 0, 0, 0), some (.isub, 0, 0, 0, 0), some (.putfield 36, 3, 8, 0, 57), none, none, some (.return_, 0, 0, 0, 0)]
def zC_26 : List (Option zE) := [some (.aload_n 0, 0, 0, 0, 0), some (.getfield 21, 3, 3, 0, 52), none, none, some (.ifCond .le 22, 26, 0, 0, 0), none, none, some (.iload_n 1, 0, 0, 0, 0), some (.aload_n 0, 0, 0, 0, 0), some (.getfield 21, 3, 3, 0, 52), none, none, some (.irem, 0, 0, 0, 0), some (.ifCond .ne 13, 26, 0, 0, 0), none, none, some (.aload_n 0, 0, 0, 0, 0), some (.dup, 0, 0, 0, 0), some (.getfield 27, 3, 5, 0, 54), none, none, some (.iconst 1, 0, 0, 0, 0), some (.iadd, 0, 0, 0, 0), some (.putfield 27, 3, 5, 0, 54), none, none, some (.return_, 0, 0, 0, 0)]
def zC_27 : List (Option zE) := [some (.iload_n 1, 0, 0, 0, 0), some (.tableswitch 95 0 7 #[47, 52, 57, 62, 67, 72, 77, 82], 0, 0, 0, 0), none, none, none, none, none, none, none, none, none, none, none, none, none, none, none, none, none, none, none, none, none, none, none, none, none, none, none, none, none, none, none, none, none, none, none, none, none, none, none, none, none, none, none, none, none, none, some (.aload_n 0, 0, 0, 0, 0), some (.getfield 9, 3, 0, 0, 49), none, none, some (.ireturn, 0, 0, 0, 0), some (.aload_n 0, 0, 0, 0, 0), some (.getfield 15, 3, 1, 0, 50), none, none, some (.ireturn, 0, 0, 0, 0), some (.aload_n 0, 0, 0, 0, 0), some (.getfield 18, 3, 2, 0, 51), none, none, some (.ireturn, 0, 0, 0, 0), some (.aload_n 0, 0, 0, 0, 0), some (.getfield 27, 3, 5, 0, 54), none, none, some (.ireturn, 0, 0, 0, 0), some (.aload_n 0, 0, 0, 0, 0), some (.getfield 30, 3, 6, 0, 55), none, none, some (.ireturn, 0, 0, 0, 0), some (.aload_n 0, 0, 0, 0, 0), some (.getfield 33, 3, 7, 0, 56), none, none, some (.ireturn, 0, 0, 0, 0), some (.aload_n 0, 0, 0, 0, 0), some (.getfield 36, 3, 8, 0, 57), none, none, some (.ireturn, 0, 0, 0, 0), some (.aload_n 0, 0, 0, 0, 0), some (.getfield 39, 3, 9, 0, 58), none, none, some (.ifCond .eq 7, 94, 0, 0, 0), none, none, some (.iconst 1, 0, 0, 0, 0), some (.goto 4, 95, 0, 0, 0), none, none, some (.iconst 0, 0, 0, 0, 0), some (.ireturn, 0, 0, 0, 0), some (.iconst (-1), 0, 0, 0, 0), some (.ireturn, 0, 0, 0, 0)]
def zC_28 : List (Option zE) := [some (.aload_n 0, 0, 0, 0, 0), some (.aload_n 1, 0, 0, 0, 0), some (.getfield 9, 3, 0, 0, 49), none, none, some (.aload_n 1, 0, 0, 0, 0), some (.getfield 15, 3, 1, 0, 50), none, none, some (.aload_n 1, 0, 0, 0, 0), some (.getfield 18, 3, 2, 0, 51), none, none, some (.aload_n 1, 0, 0, 0, 0), some (.getfield 21, 3, 3, 0, 52), none, none, some (.aload_n 1, 0, 0, 0, 0), some (.getfield 24, 3, 4, 0, 53), none, none, some (.invokevirtual 43, 24, 0, 6, 45), none, none, some (.aload_n 0, 0, 0, 0, 0), some (.aload_n 1, 0, 0, 0, 0), some (.getfield 27, 3, 5, 0, 54), none, none, some (.putfield 27, 3, 5, 0, 54), none, none, some (.aload_n 0, 0, 0, 0, 0), some (.aload_n 1, 0, 0, 0, 0), some (.getfield 30, 3, 6, 0, 55), none, none, some (.putfield 30, 3, 6, 0, 55), none, none, some (.aload_n 0, 0, 0, 0, 0), some (.aload_n 1, 0, 0, 0, 0), some (.getfield 33, 3, 7, 0, 56), none, none, some (.putfield 33, 3, 7, 0, 56), none, none, some (.aload_n 0, 0, 0, 0, 0), some (.aload_n 1, 0, 0, 0, 0), some (.getfield 36, 3, 8, 0, 57), none, none, some (.putfield 36, 3, 8, 0, 57), none, none, some (.aload_n 0, 0, 0, 0, 0), some (.aload_n 1, 0, 0, 0, 0), some (.getfield 39, 3, 9, 0, 58), none, none, some (.putfield 39, 3, 9, 0, 58), none, none, some (.return_, 0, 0, 0, 0)]
def zC_29 : List (Option zE) := [some (.aload_n 0, 0, 0, 0, 0), some (.invokespecial 3, 0, 5, 0, 46), none, none, some (.aload_n 0, 0, 0, 0, 0), some (.bipush 25, 0, 0, 0, 0), none, some (.newarray .int, 12, 0, 0, 0), none, some (.putfield 9, 4, 0, 0, 59), none, none, some (.aload_n 0, 0, 0, 0, 0), some (.bipush 25, 0, 0, 0, 0), none, some (.newarray .int, 12, 0, 0, 0), none, some (.putfield 15, 4, 1, 0, 60), none, none, some (.aload_n 0, 0, 0, 0, 0), some (.bipush 25, 0, 0, 0, 0), none, some (.newarray .int, 12, 0, 0, 0), none, some (.putfield 18, 4, 2, 0, 61), none, none, some (.aload_n 0, 0, 0, 0, 0), some (.bipush 25, 0, 0, 0, 0), none, some (.newarray .int, 12, 0, 0, 0), none, some (.putfield 21, 4, 3, 0, 62), none, none, some (.aload_n 0, 0, 0, 0, 0), some (.bipush 40, 0, 0, 0, 0), none, some (.newarray .int, 12, 0, 0, 0), none, some (.putfield 24, 4, 4, 0, 63), none, none, some (.aload_n 0, 0, 0, 0, 0), some (.bipush 40, 0, 0, 0, 0), none, some (.newarray .boolean, 14, 0, 0, 0), none, some (.putfield 27, 4, 5, 0, 64), none, none, some (.aload_n 0, 0, 0, 0, 0), some (.bipush 40, 0, 0, 0, 0), none, some (.newarray .boolean, 14, 0, 0, 0), none, some (.putfield 31, 4, 6, 0, 65), none, none, some (.aload_n 0, 0, 0, 0, 0), some (.bipush 25, 0, 0, 0, 0), none, some (.newarray .int, 12, 0, 0, 0), none, some (.putfield 34, 4, 7, 0, 66), none, none, some (.aload_n 0, 0, 0, 0, 0), some (.getfield 9, 4, 0, 0, 59), none, none, some (.bipush 20, 0, 0, 0, 0), none, some (.invokestatic 37, 190, 1, 2, 47), none, none, some (.aload_n 0, 0, 0, 0, 0), some (.getfield 18, 4, 2, 0, 61), none, none, some (.sipush 1000, 0, 0, 0, 0), none, none, some (.invokestatic 37, 190, 1, 2, 47), none, none, some (.aload_n 0, 0, 0, 0, 0), some (.getfield 24, 4, 4, 0, 63), none, none, some (.iconst (-1), 0, 0, 0, 0), some (.invokestatic 37, 190, 1, 2, 47), none, none, some (.return_, 0, 0, 0, 0)]
def zC_30 : List (Option zE) := [some (.iload_n 0, 0, 0, 0, 0), some (.invokestatic 43, 115, 3, 1, 48), none, none, some (.ifCond .eq 10, 14, 0, 0, 0), none, none, some (.iload_n 1, 0, 0, 0, 0), some (.invokestatic 43, 115, 3, 1, 48), none, none, some (.ifCond .ne 5, 16, 0, 0, 0), none, none, some (.iconst (-1), 0, 0, 0, 0), some (.ireturn, 0, 0, 0, 0), some (.iload_n 0, 0, 0, 0, 0), some (.iload_n 1, 0, 0, 0, 0), some (.invokestatic 47, 0, 8, 0, 49), none, none, some (.istore_n 2, 0, 0, 0, 0), some (.iload_n 0, 0, 0, 0, 0), some (.iload_n 1, 0, 0, 0, 0), some (.invokestatic 53, 0, 7, 0, 50), none, none, some (.iload_n 2, 0, 0, 0, 0), some (.isub, 0, 0, 0, 0), some (.istore_n 3, 0, 0, 0, 0), some (.iload_n 3, 0, 0, 0, 0), some (.iconst 1, 0, 0, 0, 0), some (.if_icmp .ne 16, 48, 0, 0, 0), none, none, some (.iload_n 2, 0, 0, 0, 0), some (.iconst 5, 0, 0, 0, 0), some (.irem, 0, 0, 0, 0), some (.iconst 4, 0, 0, 0, 0), some (.if_icmp .ge 9, 48, 0, 0, 0), none, none, some (.iload_n 2, 0, 0, 0, 0), some (.iload_n 2, 0, 0, 0, 0), some (.iconst 5, 0, 0, 0, 0), some (.idiv, 0, 0, 0, 0), some (.isub, 0, 0, 0, 0), some (.ireturn, 0, 0, 0, 0), some (.iload_n 3, 0, 0, 0, 0), some (.iconst 5, 0, 0, 0, 0), some (.if_icmp .ne 10, 60, 0, 0, 0), none, none, some (.bipush 20, 0, 0, 0, 0), none, some (.iload_n 2, 0, 0, 0, 0), some (.iadd, 0, 0, 0, 0), some (.goto 4, 61, 0, 0, 0), none, none, some (.iconst (-1), 0, 0, 0, 0), some (.ireturn, 0, 0, 0, 0)]
def zC_31 : List (Option zE) := [some (.iload_n 0, 0, 0, 0, 0), some (.bipush 20, 0, 0, 0, 0), none, some (.if_icmp .ge 11, 14, 0, 0, 0), none, none, some (.iload_n 0, 0, 0, 0, 0), some (.iload_n 0, 0, 0, 0, 0), some (.iconst 4, 0, 0, 0, 0), some (.idiv, 0, 0, 0, 0), some (.iadd, 0, 0, 0, 0), some (.goto 7, 18, 0, 0, 0), none, none, some (.iload_n 0, 0, 0, 0, 0), some (.bipush 20, 0, 0, 0, 0), none, some (.isub, 0, 0, 0, 0), some (.ireturn, 0, 0, 0, 0)]
def zC_32 : List (Option zE) := [some (.iload_n 0, 0, 0, 0, 0), some (.bipush 20, 0, 0, 0, 0), none, some (.if_icmp .ge 13, 16, 0, 0, 0), none, none, some (.iload_n 0, 0, 0, 0, 0), some (.iload_n 0, 0, 0, 0, 0), some (.iconst 4, 0, 0, 0, 0), some (.idiv, 0, 0, 0, 0), some (.iadd, 0, 0, 0, 0), some (.iconst 1, 0, 0, 0, 0), some (.iadd, 0, 0, 0, 0), some (.goto 9, 22, 0, 0, 0), none, none, some (.iload_n 0, 0, 0, 0, 0), some (.bipush 20, 0, 0, 0, 0), none, some (.isub, 0, 0, 0, 0), some (.iconst 5, 0, 0, 0, 0), some (.iadd, 0, 0, 0, 0), some (.ireturn, 0, 0, 0, 0)]
def zC_33 : List (Option zE) := [some (.aload_n 0, 0, 0, 0, 0), some (.getfield 15, 4, 1, 0, 60), none, none, some (.iconst 0, 0, 0, 0, 0), some (.iaload, 0, 0, 0, 0), some (.istore_n 1, 0, 0, 0, 0), some (.iconst 1, 0, 0, 0, 0), some (.istore_n 2, 0, 0, 0, 0), some (.iload_n 2, 0, 0, 0, 0), some (.bipush 25, 0, 0, 0, 0), none, some (.if_icmp .ge 20, 32, 0, 0, 0), none, none, some (.iload_n 1, 0, 0, 0, 0), some (.aload_n 0, 0, 0, 0, 0), some (.getfield 15, 4, 1, 0, 60), none, none, some (.iload_n 2, 0, 0, 0, 0), some (.iaload, 0, 0, 0, 0), some (.invokestatic 53, 0, 7, 0, 50), none, none, some (.istore_n 1, 0, 0, 0, 0), some (.iinc 2 1, 0, 0, 0, 0), none, none, some (.goto (-20), 9, 0, 0, 0), none, none, some (.iload_n 1, 0, 0, 0, 0), some (.ireturn, 0, 0, 0, 0)]
def zC_34 : List (Option zE) := [some (.iconst 0, 0, 0, 0, 0), some (.istore_n 1, 0, 0, 0, 0), some (.iconst 0, 0, 0, 0, 0), some (.istore_n 2, 0, 0, 0, 0), some (.iload_n 2, 0, 0, 0, 0), some (.bipush 25, 0, 0, 0, 0), none, some (.if_icmp .ge 18, 25, 0, 0, 0), none, none, some (.iload_n 1, 0, 0, 0, 0), some (.aload_n 0, 0, 0, 0, 0), some (.getfield 15, 4, 1, 0, 60), none, none, some (.iload_n 2, 0, 0, 0, 0), some (.iaload, 0, 0, 0, 0), some (.iadd, 0, 0, 0, 0), some (.istore_n 1, 0, 0, 0, 0), some (.iinc 2 1, 0, 0, 0, 0), none, none, some (.goto (-18), 4, 0, 0, 0), none, none, some (.iload_n 1, 0, 0, 0, 0), some (.ireturn, 0, 0, 0, 0)]
def zC_35 : List (Option zE) := [some (.aload_n 0, 0, 0, 0, 0), some (.getfield 15, 4, 1, 0, 60), none, none, some (.iconst 0, 0, 0, 0, 0), some (.aload_n 0, 0, 0, 0, 0), some (.getfield 34, 4, 7, 0, 66), none, none, some (.iconst 0, 0, 0, 0, 0), some (.bipush 25, 0, 0, 0, 0), none, some (.invokestatic 56, 0, 6, 0, 51), none, none, some (.iconst 0, 0, 0, 0, 0), some (.istore_n 1, 0, 0, 0, 0), some (.iload_n 1, 0, 0, 0, 0), some (.bipush 40, 0, 0, 0, 0), none, some (.if_icmp .ge 95, 115, 0, 0, 0), none, none, some (.aload_n 0, 0, 0, 0, 0), some (.getfield 27, 4, 5, 0, 64), none, none, some (.iload_n 1, 0, 0, 0, 0), some (.baload, 0, 0, 0, 0), some (.ifCond .ne 80, 109, 0, 0, 0), none, none, some (.iload_n 1, 0, 0, 0, 0), some (.invokestatic 62, 31, 1, 1, 52), none, none, some (.istore_n 2, 0, 0, 0, 0), some (.iload_n 1, 0, 0, 0, 0), some (.invokestatic 66, 32, 1, 1, 53), none, none, some (.istore_n 3, 0, 0, 0, 0), some (.aload_n 0, 0, 0, 0, 0), some (.getfield 34, 4, 7, 0, 66), none, none, some (.iload_n 2, 0, 0, 0, 0), some (.iaload, 0, 0, 0, 0), some (.aload_n 0, 0, 0, 0, 0), some (.getfield 34, 4, 7, 0, 66), none, none, some (.iload_n 3, 0, 0, 0, 0), some (.iaload, 0, 0, 0, 0), some (.isub, 0, 0, 0, 0), some (.iconst 4, 0, 0, 0, 0), some (.idiv, 0, 0, 0, 0), some (.istore 4, 0, 0, 0, 0), none, some (.aload_n 0, 0, 0, 0, 0), some (.getfield 15, 4, 1, 0, 60), none, none, some (.iload_n 2, 0, 0, 0, 0), some (.dup2, 0, 0, 0, 0), some (.iaload, 0, 0, 0, 0), some (.iload 4, 0, 0, 0, 0), none, some (.isub, 0, 0, 0, 0), some (.iastore, 0, 0, 0, 0), some (.aload_n 0, 0, 0, 0, 0), some (.getfield 15, 4, 1, 0, 60), none, none, some (.iload_n 3, 0, 0, 0, 0), some (.dup2, 0, 0, 0, 0), some (.iaload, 0, 0, 0, 0), some (.iload 4, 0, 0, 0, 0), none, some (.iadd, 0, 0, 0, 0), some (.iastore, 0, 0, 0, 0), some (.aload_n 0, 0, 0, 0, 0), some (.getfield 21, 4, 3, 0, 62), none, none, some (.iload_n 2, 0, 0, 0, 0), some (.dup2, 0, 0, 0, 0), some (.iaload, 0, 0, 0, 0), some (.iload 4, 0, 0, 0, 0), none, some (.invokestatic 69, 0, 9, 0, 54), none, none, some (.iadd, 0, 0, 0, 0), some (.iastore, 0, 0, 0, 0), some (.aload_n 0, 0, 0, 0, 0), some (.getfield 21, 4, 3, 0, 62), none, none, some (.iload_n 3, 0, 0, 0, 0), some (.dup2, 0, 0, 0, 0), some (.iaload, 0, 0, 0, 0), some (.iload 4, 0, 0, 0, 0), none, some (.invokestatic 69, 0, 9, 0, 54), none, none, some (.iadd, 0, 0, 0, 0), some (.iastore, 0, 0, 0, 0), some (.iinc 1 1, 0, 0, 0, 0), none, none, some (.goto (-95), 17, 0, 0, 0), none, none, some (.return_, 0, 0, 0, 0)]
def zC_36 : List (Option zE) := [some (.iload_n 2, 0, 0, 0, 0), some (.invokestatic 62, 31, 1, 1, 52), none, none, some (.istore_n 3, 0, 0, 0, 0), some (.iload_n 2, 0, 0, 0, 0), some (.invokestatic 66, 32, 1, 1, 53), none, none, some (.istore 4, 0, 0, 0, 0), none, some (.aload_n 0, 0, 0, 0, 0), some (.getfield 27, 4, 5, 0, 64), none, none, some (.iload_n 2, 0, 0, 0, 0), some (.baload, 0, 0, 0, 0), some (.ifCond .ne 45, 62, 0, 0, 0), none, none, some (.aload_n 0, 0, 0, 0, 0), some (.getfield 15, 4, 1, 0, 60), none, none, some (.iload_n 3, 0, 0, 0, 0), some (.iaload, 0, 0, 0, 0), some (.aload_n 0, 0, 0, 0, 0), some (.getfield 9, 4, 0, 0, 59), none, none, some (.iload_n 3, 0, 0, 0, 0), some (.iaload, 0, 0, 0, 0), some (.iadd, 0, 0, 0, 0), some (.aload_n 1, 0, 0, 0, 0), some (.getfield 72, 0, 1, 0, 67), none, none, some (.if_icmp .lt 25, 62, 0, 0, 0), none, none, some (.aload_n 0, 0, 0, 0, 0), some (.getfield 15, 4, 1, 0, 60), none, none, some (.iload 4, 0, 0, 0, 0), none, some (.iaload, 0, 0, 0, 0), some (.aload_n 0, 0, 0, 0, 0), some (.getfield 9, 4, 0, 0, 59), none, none, some (.iload 4, 0, 0, 0, 0), none, some (.iaload, 0, 0, 0, 0), some (.iadd, 0, 0, 0, 0), some (.aload_n 1, 0, 0, 0, 0), some (.getfield 72, 0, 1, 0, 67), none, none, some (.if_icmp .ge 5, 64, 0, 0, 0), none, none, some (.iconst 0, 0, 0, 0, 0), some (.ireturn, 0, 0, 0, 0), some (.aload_n 0, 0, 0, 0, 0), some (.getfield 24, 4, 4, 0, 63), none, none, some (.iload_n 2, 0, 0, 0, 0), some (.iaload, 0, 0, 0, 0), some (.iconst (-1), 0, 0, 0, 0), some (.if_icmp .eq 33, 104, 0, 0, 0), none, none, some (.aload_n 1, 0, 0, 0, 0), some (.getfield 78, 0, 2, 0, 68), none, none, some (.aload_n 0, 0, 0, 0, 0), some (.getfield 15, 4, 1, 0, 60), none, none, some (.iload_n 3, 0, 0, 0, 0), some (.iaload, 0, 0, 0, 0), some (.aload_n 0, 0, 0, 0, 0), some (.getfield 15, 4, 1, 0, 60), none, none, some (.iload 4, 0, 0, 0, 0), none, some (.iaload, 0, 0, 0, 0), some (.invokestatic 53, 0, 7, 0, 50), none, none, some (.iadd, 0, 0, 0, 0), some (.aload_n 0, 0, 0, 0, 0), some (.getfield 24, 4, 4, 0, 63), none, none, some (.iload_n 2, 0, 0, 0, 0), some (.iaload, 0, 0, 0, 0), some (.if_icmp .gt 7, 108, 0, 0, 0), none, none, some (.iconst 1, 0, 0, 0, 0), some (.goto 4, 109, 0, 0, 0), none, none, some (.iconst 0, 0, 0, 0, 0), some (.ireturn, 0, 0, 0, 0)]
def zC_37 : List (Option zE) := [some (.aload_n 0, 0, 0, 0, 0), some (.getfield 18, 4, 2, 0, 61), none, none, some (.iload_n 1, 0, 0, 0, 0), some (.iaload, 0, 0, 0, 0), some (.iload_n 2, 0, 0, 0, 0), some (.iload_n 2, 0, 0, 0, 0), some (.imul, 0, 0, 0, 0), some (.iconst 4, 0, 0, 0, 0), some (.idiv, 0, 0, 0, 0), some (.invokestatic 47, 0, 8, 0, 49), none, none, some (.istore_n 3, 0, 0, 0, 0), some (.aload_n 0, 0, 0, 0, 0), some (.getfield 18, 4, 2, 0, 61), none, none, some (.iload_n 1, 0, 0, 0, 0), some (.dup2, 0, 0, 0, 0), some (.iaload, 0, 0, 0, 0), some (.iload_n 3, 0, 0, 0, 0), some (.isub, 0, 0, 0, 0), some (.iastore, 0, 0, 0, 0), some (.iload_n 3, 0, 0, 0, 0), some (.ireturn, 0, 0, 0, 0)]
def zC_38 : List (Option zE) := [some (.iconst 0, 0, 0, 0, 0), some (.istore_n 2, 0, 0, 0, 0), some (.iload_n 2, 0, 0, 0, 0), some (.bipush 25, 0, 0, 0, 0), none, some (.if_icmp .ge 45, 50, 0, 0, 0), none, none, some (.aload_n 0, 0, 0, 0, 0), some (.getfield 21, 4, 3, 0, 62), none, none, some (.iload_n 2, 0, 0, 0, 0), some (.iaload, 0, 0, 0, 0), some (.iload_n 1, 0, 0, 0, 0), some (.if_icmp .ge 22, 37, 0, 0, 0), none, none, some (.aload_n 0, 0, 0, 0, 0), some (.getfield 9, 4, 0, 0, 59), none, none, some (.iload_n 2, 0, 0, 0, 0), some (.iaload, 0, 0, 0, 0), some (.ifCond .le 13, 37, 0, 0, 0), none, none, some (.aload_n 0, 0, 0, 0, 0), some (.getfield 9, 4, 0, 0, 59), none, none, some (.iload_n 2, 0, 0, 0, 0), some (.dup2, 0, 0, 0, 0), some (.iaload, 0, 0, 0, 0), some (.iconst 1, 0, 0, 0, 0), some (.isub, 0, 0, 0, 0), some (.iastore, 0, 0, 0, 0), some (.aload_n 0, 0, 0, 0, 0), some (.getfield 21, 4, 3, 0, 62), none, none, some (.iload_n 2, 0, 0, 0, 0), some (.iconst 0, 0, 0, 0, 0), some (.iastore, 0, 0, 0, 0), some (.iinc 2 1, 0, 0, 0, 0), none, none, some (.goto (-45), 2, 0, 0, 0), none, none, some (.return_, 0, 0, 0, 0)]
def zC_39 : List (Option zE) := [some (.aload_n 1, 0, 0, 0, 0), some (.getfield 9, 4, 0, 0, 59), none, none, some (.iconst 0, 0, 0, 0, 0), some (.aload_n 0, 0, 0, 0, 0), some (.getfield 9, 4, 0, 0, 59), none, none, some (.iconst 0, 0, 0, 0, 0), some (.bipush 25, 0, 0, 0, 0), none, some (.invokestatic 56, 0, 6, 0, 51), none, none, some (.aload_n 1, 0, 0, 0, 0), some (.getfield 15, 4, 1, 0, 60), none, none, some (.iconst 0, 0, 0, 0, 0), some (.aload_n 0, 0, 0, 0, 0), some (.getfield 15, 4, 1, 0, 60), none, none, some (.iconst 0, 0, 0, 0, 0), some (.bipush 25, 0, 0, 0, 0), none, some (.invokestatic 56, 0, 6, 0, 51), none, none, some (.aload_n 1, 0, 0, 0, 0), some (.getfield 18, 4, 2, 0, 61), none, none, some (.iconst 0, 0, 0, 0, 0), some (.aload_n 0, 0, 0, 0, 0), some (.getfield 18, 4, 2, 0, 61), none, none, some (.iconst 0, 0, 0, 0, 0), some (.bipush 25, 0, 0, 0, 0), none, some (.invokestatic 56, 0, 6, 0, 51), none, none, some (.aload_n 1, 0, 0, 0, 0), some (.getfield 21, 4, 3, 0, 62), none, none, some (.iconst 0, 0, 0, 0, 0), some (.aload_n 0, 0, 0, 0, 0), some (.getfield 21, 4, 3, 0, 62), none, none, some (.iconst 0, 0, 0, 0, 0), some (.bipush 25, 0, 0, 0, 0), none, some (.invokestatic 56, 0, 6, 0, 51), none, none, some (.aload_n 1, 0, 0, 0, 0), some (.getfield 24, 4, 4, 0, 63), none, none, some (.iconst 0, 0, 0, 0, 0), some (.aload_n 0, 0, 0, 0, 0), some (.getfield 24, 4, 4, 0, 63), none, none, some (.iconst 0, 0, 0, 0, 0), some (.bipush 40, 0, 0, 0, 0), none, some (.invokestatic 56, 0, 6, 0, 51), none, none, some (.iconst 0, 0, 0, 0, 0), some (.istore_n 2, 0, 0, 0, 0), some (.iload_n 2, 0, 0, 0, 0), some (.bipush 40, 0, 0, 0, 0), none, some (.if_icmp .ge 33, 113, 0, 0, 0), none, none, some (.aload_n 0, 0, 0, 0, 0), some (.getfield 27, 4, 5, 0, 64), none, none, some (.iload_n 2, 0, 0, 0, 0), some (.aload_n 1, 0, 0, 0, 0), some (.getfield 27, 4, 5, 0, 64), none, none, some (.iload_n 2, 0, 0, 0, 0), some (.baload, 0, 0, 0, 0), some (.bastore, 0, 0, 0, 0), some (.aload_n 0, 0, 0, 0, 0), some (.getfield 31, 4, 6, 0, 65), none, none, some (.iload_n 2, 0, 0, 0, 0), some (.aload_n 1, 0, 0, 0, 0), some (.getfield 31, 4, 6, 0, 65), none, none, some (.iload_n 2, 0, 0, 0, 0), some (.baload, 0, 0, 0, 0), some (.bastore, 0, 0, 0, 0), some (.iinc 2 1, 0, 0, 0, 0), none, none, some (.goto (-33), 77, 0, 0, 0), none, none, some (.return_, 0, 0, 0, 0)]
def zC_40 : List (Option zE) := [some (.aload_n 0, 0, 0, 0, 0), some (.invokespecial 3, 0, 5, 0, 55), none, none, some (.aload_n 0, 0, 0, 0, 0), some (.bipush 96, 0, 0, 0, 0), none, some (.newarray .int, 12, 0, 0, 0), none, some (.putfield 9, 5, 3, 0, 69), none, none, some (.return_, 0, 0, 0, 0)]
def zC_41 : List (Option zE) := [some (.aload_n 0, 0, 0, 0, 0), some (.iconst 1, 0, 0, 0, 0), some (.putfield 15, 5, 1, 0, 70), none, none, some (.aload_n 0, 0, 0, 0, 0), some (.iconst 0, 0, 0, 0, 0), some (.putfield 19, 5, 2, 0, 71), none, none, some (.return_, 0, 0, 0, 0)]
def zC_42 : List (Option zE) := [some (.aload_n 0, 0, 0, 0, 0), some (.getfield 19, 5, 2, 0, 71), none, none, some (.bipush 96, 0, 0, 0, 0), none, some (.if_icmp .ge 23, 29, 0, 0, 0), none, none, some (.aload_n 0, 0, 0, 0, 0), some (.getfield 9, 5, 3, 0, 69), none, none, some (.aload_n 0, 0, 0, 0, 0), some (.getfield 19, 5, 2, 0, 71), none, none, some (.iload_n 1, 0, 0, 0, 0), some (.iastore, 0, 0, 0, 0), some (.aload_n 0, 0, 0, 0, 0), some (.dup, 0, 0, 0, 0), some (.getfield 19, 5, 2, 0, 71), none, none, some (.iconst 1, 0, 0, 0, 0), some (.iadd, 0, 0, 0, 0), some (.putfield 19, 5, 2, 0, 71), none, none, some (.return_, 0, 0, 0, 0)]
def zC_43 : List (Option zE) := [some (.aload_n 0, 0, 0, 0, 0), some (.iload_n 1, 0, 0, 0, 0), some (.iconst 3, 0, 0, 0, 0), some (.imul, 0, 0, 0, 0), some (.iload_n 2, 0, 0, 0, 0), some (.iadd, 0, 0, 0, 0), some (.sipush 1000, 0, 0, 0, 0), none, none, some (.imul, 0, 0, 0, 0), some (.iload_n 3, 0, 0, 0, 0), some (.iadd, 0, 0, 0, 0), some (.invokevirtual 23, 42, 0, 2, 56), none, none, some (.return_, 0, 0, 0, 0)]
def zC_44 : List (Option zE) := [some (.lconst 0, 0, 0, 0, 0), some (.lstore_n 2, 0, 0, 0, 0), some (.iconst 0, 0, 0, 0, 0), some (.istore 4, 0, 0, 0, 0), none, some (.iload 4, 0, 0, 0, 0), none, some (.aload_n 0, 0, 0, 0, 0), some (.getfield 19, 5, 2, 0, 71), none, none, some (.if_icmp .ge 102, 113, 0, 0, 0), none, none, some (.lload_n 2, 0, 0, 0, 0), some (.lconst 1, 0, 0, 0, 0), some (.land, 0, 0, 0, 0), some (.lstore 5, 0, 0, 0, 0), none, some (.aload_n 0, 0, 0, 0, 0), some (.getfield 9, 5, 3, 0, 69), none, none, some (.iload 4, 0, 0, 0, 0), none, some (.iaload, 0, 0, 0, 0), some (.ifCond .lt 30, 56, 0, 0, 0), none, none, some (.lload_n 2, 0, 0, 0, 0), some (.iconst 1, 0, 0, 0, 0), some (.lshl, 0, 0, 0, 0), some (.aload_n 0, 0, 0, 0, 0), some (.getfield 9, 5, 3, 0, 69), none, none, some (.iload 4, 0, 0, 0, 0), none, some (.iaload, 0, 0, 0, 0), some (.aload_n 1, 0, 0, 0, 0), some (.invokestatic 27, 45, 1, 2, 57), none, none, some (.ifCond .eq 7, 50, 0, 0, 0), none, none, some (.lconst 1, 0, 0, 0, 0), some (.goto 4, 51, 0, 0, 0), none, none, some (.lconst 0, 0, 0, 0, 0), some (.lor, 0, 0, 0, 0), some (.lstore_n 2, 0, 0, 0, 0), some (.goto 54, 107, 0, 0, 0), none, none, some (.aload_n 0, 0, 0, 0, 0), some (.getfield 9, 5, 3, 0, 69), none, none, some (.iload 4, 0, 0, 0, 0), none, some (.iaload, 0, 0, 0, 0), some (.iconst (-1), 0, 0, 0, 0), some (.if_icmp .ne 10, 74, 0, 0, 0), none, none, some (.lload_n 2, 0, 0, 0, 0), some (.lconst 1, 0, 0, 0, 0), some (.lxor, 0, 0, 0, 0), some (.lstore_n 2, 0, 0, 0, 0), some (.goto 36, 107, 0, 0, 0), none, none, some (.aload_n 0, 0, 0, 0, 0), some (.getfield 9, 5, 3, 0, 69), none, none, some (.iload 4, 0, 0, 0, 0), none, some (.iaload, 0, 0, 0, 0), some (.bipush (-2), 0, 0, 0, 0), none, some (.if_icmp .ne 17, 100, 0, 0, 0), none, none, some (.lload_n 2, 0, 0, 0, 0), some (.iconst 1, 0, 0, 0, 0), some (.lushr, 0, 0, 0, 0), some (.lload 5, 0, 0, 0, 0), none, some (.ldc2_w 31, 0, 0, -2, 0), none, none, some (.lor, 0, 0, 0, 0), some (.land, 0, 0, 0, 0), some (.lstore_n 2, 0, 0, 0, 0), some (.goto 10, 107, 0, 0, 0), none, none, some (.lload_n 2, 0, 0, 0, 0), some (.iconst 1, 0, 0, 0, 0), some (.lushr, 0, 0, 0, 0), some (.lload 5, 0, 0, 0, 0), none, some (.lor, 0, 0, 0, 0), some (.lstore_n 2, 0, 0, 0, 0), some (.iinc 4 1, 0, 0, 0, 0), none, none, some (.goto (-105), 5, 0, 0, 0), none, none, some (.lload_n 2, 0, 0, 0, 0), some (.lconst 1, 0, 0, 0, 0), some (.land, 0, 0, 0, 0), some (.lconst 1, 0, 0, 0, 0), some (.lcmp, 0, 0, 0, 0), some (.ifCond .ne 7, 125, 0, 0, 0), none, none, some (.iconst 1, 0, 0, 0, 0), some (.goto 4, 126, 0, 0, 0), none, none, some (.iconst 0, 0, 0, 0, 0), some (.ireturn, 0, 0, 0, 0)]
def zC_45 : List (Option zE) := [some (.iload_n 0, 0, 0, 0, 0), some (.sipush 1000, 0, 0, 0, 0), none, none, some (.idiv, 0, 0, 0, 0), some (.iconst 3, 0, 0, 0, 0), some (.idiv, 0, 0, 0, 0), some (.istore_n 2, 0, 0, 0, 0), some (.iload_n 2, 0, 0, 0, 0), some (.ifCond .lt 9, 18, 0, 0, 0), none, none, some (.iload_n 2, 0, 0, 0, 0), some (.aload_n 1, 0, 0, 0, 0), some (.arraylength, 0, 0, 0, 0), some (.if_icmp .lt 5, 20, 0, 0, 0), none, none, some (.iconst 0, 0, 0, 0, 0), some (.ireturn, 0, 0, 0, 0), some (.iload_n 0, 0, 0, 0, 0), some (.sipush 1000, 0, 0, 0, 0), none, none, some (.irem, 0, 0, 0, 0), some (.istore_n 3, 0, 0, 0, 0), some (.iload_n 0, 0, 0, 0, 0), some (.sipush 1000, 0, 0, 0, 0), none, none, some (.idiv, 0, 0, 0, 0), some (.iconst 3, 0, 0, 0, 0), some (.irem, 0, 0, 0, 0), some (.lookupswitch 53 #[(0, 27), (1, 40)], 0, 0, 0, 0), none, none, none, none, none, none, none, none, none, none, none, none, none, none, none, none, none, none, none, none, none, none, none, none, none, none, some (.aload_n 1, 0, 0, 0, 0), some (.iload_n 2, 0, 0, 0, 0), some (.iaload, 0, 0, 0, 0), some (.iload_n 3, 0, 0, 0, 0), some (.if_icmp .ge 7, 71, 0, 0, 0), none, none, some (.iconst 1, 0, 0, 0, 0), some (.goto 4, 72, 0, 0, 0), none, none, some (.iconst 0, 0, 0, 0, 0), some (.ireturn, 0, 0, 0, 0), some (.aload_n 1, 0, 0, 0, 0), some (.iload_n 2, 0, 0, 0, 0), some (.iaload, 0, 0, 0, 0), some (.iload_n 3, 0, 0, 0, 0), some (.if_icmp .le 7, 84, 0, 0, 0), none, none, some (.iconst 1, 0, 0, 0, 0), some (.goto 4, 85, 0, 0, 0), none, none, some (.iconst 0, 0, 0, 0, 0), some (.ireturn, 0, 0, 0, 0), some (.aload_n 1, 0, 0, 0, 0), some (.iload_n 2, 0, 0, 0, 0), some (.iaload, 0, 0, 0, 0), some (.iload_n 3, 0, 0, 0, 0), some (.if_icmp .ne 7, 97, 0, 0, 0), none, none, some (.iconst 1, 0, 0, 0, 0), some (.goto 4, 98, 0, 0, 0), none, none, some (.iconst 0, 0, 0, 0, 0), some (.ireturn, 0, 0, 0, 0)]
def zC_46 : List (Option zE) := [some (.aload_n 0, 0, 0, 0, 0), some (.aload_n 1, 0, 0, 0, 0), some (.getfield 33, 5, 0, 0, 72), none, none, some (.putfield 33, 5, 0, 0, 72), none, none, some (.aload_n 0, 0, 0, 0, 0), some (.aload_n 1, 0, 0, 0, 0), some (.getfield 15, 5, 1, 0, 70), none, none, some (.putfield 15, 5, 1, 0, 70), none, none, some (.aload_n 0, 0, 0, 0, 0), some (.aload_n 1, 0, 0, 0, 0), some (.getfield 19, 5, 2, 0, 71), none, none, some (.putfield 19, 5, 2, 0, 71), none, none, some (.aload_n 1, 0, 0, 0, 0), some (.getfield 9, 5, 3, 0, 69), none, none, some (.iconst 0, 0, 0, 0, 0), some (.aload_n 0, 0, 0, 0, 0), some (.getfield 9, 5, 3, 0, 69), none, none, some (.iconst 0, 0, 0, 0, 0), some (.bipush 96, 0, 0, 0, 0), none, some (.invokestatic 36, 0, 6, 0, 58), none, none, some (.return_, 0, 0, 0, 0)]
def zC_47 : List (Option zE) := [some (.aload_n 0, 0, 0, 0, 0), some (.invokespecial 3, 0, 5, 0, 59), none, none, some (.aload_n 0, 0, 0, 0, 0), some (.new 9, 5, 0, 0, 7), none, none, some (.dup, 0, 0, 0, 0), some (.invokespecial 11, 40, 4, 1, 60), none, none, some (.putfield 12, 6, 0, 0, 73), none, none, some (.aload_n 0, 0, 0, 0, 0), some (.bipush 96, 0, 0, 0, 0), none, some (.newarray .int, 12, 0, 0, 0), none, some (.putfield 18, 6, 1, 0, 74), none, none, some (.return_, 0, 0, 0, 0)]
def zC_48 : List (Option zE) := [some (.aload_n 0, 0, 0, 0, 0), some (.aload_n 1, 0, 0, 0, 0), some (.getfield 22, 8, 2, 0, 75), none, none, some (.putfield 28, 6, 2, 0, 76), none, none, some (.iconst 0, 0, 0, 0, 0), some (.istore_n 2, 0, 0, 0, 0), some (.iload_n 2, 0, 0, 0, 0), some (.aload_n 0, 0, 0, 0, 0), some (.getfield 28, 6, 2, 0, 76), none, none, some (.if_icmp .ge 22, 37, 0, 0, 0), none, none, some (.aload_n 0, 0, 0, 0, 0), some (.getfield 18, 6, 1, 0, 74), none, none, some (.iload_n 2, 0, 0, 0, 0), some (.aload_n 1, 0, 0, 0, 0), some (.getfield 29, 8, 4, 0, 77), none, none, some (.iload_n 2, 0, 0, 0, 0), some (.laload, 0, 0, 0, 0), some (.l2i, 0, 0, 0, 0), some (.iastore, 0, 0, 0, 0), some (.iinc 2 1, 0, 0, 0, 0), none, none, some (.goto (-24), 10, 0, 0, 0), none, none, some (.aload_n 0, 0, 0, 0, 0), some (.iconst 0, 0, 0, 0, 0), some (.putfield 33, 6, 3, 0, 78), none, none, some (.aload_n 0, 0, 0, 0, 0), some (.getfield 12, 6, 0, 0, 73), none, none, some (.invokevirtual 36, 41, 0, 1, 61), none, none, some (.aload_n 0, 0, 0, 0, 0), some (.invokevirtual 39, 51, 0, 1, 62), none, none, some (.ifCond .eq 26, 79, 0, 0, 0), none, none, some (.aload_n 0, 0, 0, 0, 0), some (.iconst 0, 0, 0, 0, 0), some (.invokevirtual 43, 52, 0, 2, 63), none, none, some (.ifCond .eq 18, 79, 0, 0, 0), none, none, some (.aload_n 0, 0, 0, 0, 0), some (.getfield 33, 6, 3, 0, 78), none, none, some (.aload_n 0, 0, 0, 0, 0), some (.getfield 28, 6, 2, 0, 76), none, none, some (.if_icmp .ne 7, 79, 0, 0, 0), none, none, some (.iconst 1, 0, 0, 0, 0), some (.goto 4, 80, 0, 0, 0), none, none, some (.iconst 0, 0, 0, 0, 0), some (.istore_n 2, 0, 0, 0, 0), some (.iload_n 2, 0, 0, 0, 0), some (.ifCond .eq 7, 89, 0, 0, 0), none, none, some (.iconst (-1), 0, 0, 0, 0), some (.goto 7, 93, 0, 0, 0), none, none, some (.aload_n 0, 0, 0, 0, 0), some (.getfield 33, 6, 3, 0, 78), none, none, some (.ireturn, 0, 0, 0, 0)]
def zC_49 : List (Option zE) := [some (.aload_n 0, 0, 0, 0, 0), some (.getfield 33, 6, 3, 0, 78), none, none, some (.ifCond .lt 26, 30, 0, 0, 0), none, none, some (.aload_n 0, 0, 0, 0, 0), some (.getfield 33, 6, 3, 0, 78), none, none, some (.aload_n 0, 0, 0, 0, 0), some (.getfield 28, 6, 2, 0, 76), none, none, some (.if_icmp .ge 15, 30, 0, 0, 0), none, none, some (.aload_n 0, 0, 0, 0, 0), some (.getfield 18, 6, 1, 0, 74), none, none, some (.aload_n 0, 0, 0, 0, 0), some (.getfield 33, 6, 3, 0, 78), none, none, some (.iaload, 0, 0, 0, 0), some (.goto 4, 31, 0, 0, 0), none, none, some (.iconst (-1), 0, 0, 0, 0), some (.ireturn, 0, 0, 0, 0)]
def zC_50 : List (Option zE) := [some (.aload_n 0, 0, 0, 0, 0), some (.invokevirtual 47, 49, 0, 1, 64), none, none, some (.iload_n 1, 0, 0, 0, 0), some (.if_icmp .eq 5, 10, 0, 0, 0), none, none, some (.iconst 0, 0, 0, 0, 0), some (.ireturn, 0, 0, 0, 0), some (.aload_n 0, 0, 0, 0, 0), some (.dup, 0, 0, 0, 0), some (.getfield 33, 6, 3, 0, 78), none, none, some (.iconst 1, 0, 0, 0, 0), some (.iadd, 0, 0, 0, 0), some (.putfield 33, 6, 3, 0, 78), none, none, some (.iconst 1, 0, 0, 0, 0), some (.ireturn, 0, 0, 0, 0)]
def zC_51 : List (Option zE) := [some (.aload_n 0, 0, 0, 0, 0), some (.bipush 103, 0, 0, 0, 0), none, some (.invokevirtual 51, 50, 0, 2, 65), none, none, some (.ifCond .ne 5, 11, 0, 0, 0), none, none, some (.iconst 0, 0, 0, 0, 0), some (.ireturn, 0, 0, 0, 0), some (.aload_n 0, 0, 0, 0, 0), some (.invokevirtual 47, 49, 0, 1, 64), none, none, some (.bipush 48, 0, 0, 0, 0), none, some (.if_icmp .lt 12, 29, 0, 0, 0), none, none, some (.aload_n 0, 0, 0, 0, 0), some (.invokevirtual 47, 49, 0, 1, 64), none, none, some (.bipush 50, 0, 0, 0, 0), none, some (.if_icmp .le 5, 31, 0, 0, 0), none, none, some (.iconst 0, 0, 0, 0, 0), some (.ireturn, 0, 0, 0, 0), some (.aload_n 0, 0, 0, 0, 0), some (.getfield 12, 6, 0, 0, 73), none, none, some (.aload_n 0, 0, 0, 0, 0), some (.invokevirtual 47, 49, 0, 1, 64), none, none, some (.bipush 48, 0, 0, 0, 0), none, some (.isub, 0, 0, 0, 0), some (.putfield 54, 5, 0, 0, 79), none, none, some (.aload_n 0, 0, 0, 0, 0), some (.dup, 0, 0, 0, 0), some (.getfield 33, 6, 3, 0, 78), none, none, some (.iconst 1, 0, 0, 0, 0), some (.iadd, 0, 0, 0, 0), some (.putfield 33, 6, 3, 0, 78), none, none, some (.aload_n 0, 0, 0, 0, 0), some (.bipush 58, 0, 0, 0, 0), none, some (.invokevirtual 51, 50, 0, 2, 65), none, none, some (.ireturn, 0, 0, 0, 0)]
def zC_52 : List (Option zE) := [some (.aload_n 0, 0, 0, 0, 0), some (.iload_n 1, 0, 0, 0, 0), some (.invokevirtual 57, 53, 0, 2, 66), none, none, some (.istore_n 2, 0, 0, 0, 0), some (.iconst 0, 0, 0, 0, 0), some (.istore_n 3, 0, 0, 0, 0), some (.iload_n 3, 0, 0, 0, 0), some (.bipush 96, 0, 0, 0, 0), none, some (.if_icmp .ge 37, 48, 0, 0, 0), none, none, some (.iload_n 2, 0, 0, 0, 0), some (.ifCond .eq 33, 48, 0, 0, 0), none, none, some (.aload_n 0, 0, 0, 0, 0), some (.bipush 124, 0, 0, 0, 0), none, some (.invokevirtual 51, 50, 0, 2, 65), none, none, some (.ifCond .eq 24, 48, 0, 0, 0), none, none, some (.aload_n 0, 0, 0, 0, 0), some (.iload_n 1, 0, 0, 0, 0), some (.invokevirtual 57, 53, 0, 2, 66), none, none, some (.istore_n 2, 0, 0, 0, 0), some (.aload_n 0, 0, 0, 0, 0), some (.getfield 12, 6, 0, 0, 73), none, none, some (.bipush (-3), 0, 0, 0, 0), none, some (.invokevirtual 60, 42, 0, 2, 67), none, none, some (.iinc 3 1, 0, 0, 0, 0), none, none, some (.goto (-37), 8, 0, 0, 0), none, none, some (.iload_n 2, 0, 0, 0, 0), some (.ireturn, 0, 0, 0, 0)]
def zC_53 : List (Option zE) := [some (.aload_n 0, 0, 0, 0, 0), some (.iload_n 1, 0, 0, 0, 0), some (.invokevirtual 64, 54, 0, 2, 68), none, none, some (.istore_n 2, 0, 0, 0, 0), some (.iconst 0, 0, 0, 0, 0), some (.istore_n 3, 0, 0, 0, 0), some (.iload_n 3, 0, 0, 0, 0), some (.bipush 96, 0, 0, 0, 0), none, some (.if_icmp .ge 37, 48, 0, 0, 0), none, none, some (.iload_n 2, 0, 0, 0, 0), some (.ifCond .eq 33, 48, 0, 0, 0), none, none, some (.aload_n 0, 0, 0, 0, 0), some (.bipush 38, 0, 0, 0, 0), none, some (.invokevirtual 51, 50, 0, 2, 65), none, none, some (.ifCond .eq 24, 48, 0, 0, 0), none, none, some (.aload_n 0, 0, 0, 0, 0), some (.iload_n 1, 0, 0, 0, 0), some (.invokevirtual 64, 54, 0, 2, 68), none, none, some (.istore_n 2, 0, 0, 0, 0), some (.aload_n 0, 0, 0, 0, 0), some (.getfield 12, 6, 0, 0, 73), none, none, some (.bipush (-2), 0, 0, 0, 0), none, some (.invokevirtual 60, 42, 0, 2, 67), none, none, some (.iinc 3 1, 0, 0, 0, 0), none, none, some (.goto (-37), 8, 0, 0, 0), none, none, some (.iload_n 2, 0, 0, 0, 0), some (.ireturn, 0, 0, 0, 0)]
def zC_54 : List (Option zE) := [some (.aload_n 0, 0, 0, 0, 0), some (.invokevirtual 47, 49, 0, 1, 64), none, none, some (.bipush 33, 0, 0, 0, 0), none, some (.if_icmp .eq 17, 23, 0, 0, 0), none, none, some (.aload_n 0, 0, 0, 0, 0), some (.invokevirtual 47, 49, 0, 1, 64), none, none, some (.bipush 40, 0, 0, 0, 0), none, some (.if_icmp .eq 8, 23, 0, 0, 0), none, none, some (.aload_n 0, 0, 0, 0, 0), some (.invokevirtual 67, 55, 0, 1, 69), none, none, some (.ireturn, 0, 0, 0, 0), some (.iload_n 1, 0, 0, 0, 0), some (.bipush 20, 0, 0, 0, 0), none, some (.if_icmp .lt 5, 31, 0, 0, 0), none, none, some (.iconst 0, 0, 0, 0, 0), some (.ireturn, 0, 0, 0, 0), some (.aload_n 0, 0, 0, 0, 0), some (.bipush 40, 0, 0, 0, 0), none, some (.invokevirtual 51, 50, 0, 2, 65), none, none, some (.ifCond .eq 28, 65, 0, 0, 0), none, none, some (.aload_n 0, 0, 0, 0, 0), some (.iload_n 1, 0, 0, 0, 0), some (.iconst 1, 0, 0, 0, 0), some (.iadd, 0, 0, 0, 0), some (.invokevirtual 43, 52, 0, 2, 63), none, none, some (.ifCond .eq 16, 63, 0, 0, 0), none, none, some (.aload_n 0, 0, 0, 0, 0), some (.bipush 41, 0, 0, 0, 0), none, some (.invokevirtual 51, 50, 0, 2, 65), none, none, some (.ifCond .eq 7, 63, 0, 0, 0), none, none, some (.iconst 1, 0, 0, 0, 0), some (.goto 4, 64, 0, 0, 0), none, none, some (.iconst 0, 0, 0, 0, 0), some (.ireturn, 0, 0, 0, 0), some (.aload_n 0, 0, 0, 0, 0), some (.dup, 0, 0, 0, 0), some (.getfield 33, 6, 3, 0, 78), none, none, some (.iconst 1, 0, 0, 0, 0), some (.iadd, 0, 0, 0, 0), some (.putfield 33, 6, 3, 0, 78), none, none, some (.aload_n 0, 0, 0, 0, 0), some (.iload_n 1, 0, 0, 0, 0), some (.iconst 1, 0, 0, 0, 0), some (.iadd, 0, 0, 0, 0), some (.invokevirtual 64, 54, 0, 2, 68), none, none, some (.istore_n 2, 0, 0, 0, 0), some (.aload_n 0, 0, 0, 0, 0), some (.getfield 12, 6, 0, 0, 73), none, none, some (.iconst (-1), 0, 0, 0, 0), some (.invokevirtual 60, 42, 0, 2, 67), none, none, some (.iload_n 2, 0, 0, 0, 0), some (.ireturn, 0, 0, 0, 0)]
def zC_55 : List (Option zE) := [some (.aload_n 0, 0, 0, 0, 0), some (.invokevirtual 47, 49, 0, 1, 64), none, none, some (.invokestatic 70, 58, 1, 1, 70), none, none, some (.istore_n 1, 0, 0, 0, 0), some (.iload_n 1, 0, 0, 0, 0), some (.iconst (-1), 0, 0, 0, 0), some (.if_icmp .ne 5, 15, 0, 0, 0), none, none, some (.iconst 0, 0, 0, 0, 0), some (.ireturn, 0, 0, 0, 0), some (.aload_n 0, 0, 0, 0, 0), some (.dup, 0, 0, 0, 0), some (.getfield 33, 6, 3, 0, 78), none, none, some (.iconst 1, 0, 0, 0, 0), some (.iadd, 0, 0, 0, 0), some (.putfield 33, 6, 3, 0, 78), none, none, some (.aload_n 0, 0, 0, 0, 0), some (.invokevirtual 47, 49, 0, 1, 64), none, none, some (.invokestatic 74, 59, 1, 1, 71), none, none, some (.istore_n 2, 0, 0, 0, 0), some (.iload_n 2, 0, 0, 0, 0), some (.iconst (-1), 0, 0, 0, 0), some (.if_icmp .ne 5, 40, 0, 0, 0), none, none, some (.iconst 0, 0, 0, 0, 0), some (.ireturn, 0, 0, 0, 0), some (.aload_n 0, 0, 0, 0, 0), some (.dup, 0, 0, 0, 0), some (.getfield 33, 6, 3, 0, 78), none, none, some (.iconst 1, 0, 0, 0, 0), some (.iadd, 0, 0, 0, 0), some (.putfield 33, 6, 3, 0, 78), none, none, some (.aload_n 0, 0, 0, 0, 0), some (.invokevirtual 77, 56, 0, 1, 72), none, none, some (.istore_n 3, 0, 0, 0, 0), some (.iload_n 3, 0, 0, 0, 0), some (.iconst (-1), 0, 0, 0, 0), some (.if_icmp .ne 5, 62, 0, 0, 0), none, none, some (.iconst 0, 0, 0, 0, 0), some (.ireturn, 0, 0, 0, 0), some (.aload_n 0, 0, 0, 0, 0), some (.getfield 12, 6, 0, 0, 73), none, none, some (.iload_n 1, 0, 0, 0, 0), some (.iload_n 2, 0, 0, 0, 0), some (.iload_n 3, 0, 0, 0, 0), some (.invokevirtual 80, 43, 0, 4, 73), none, none, some (.iconst 1, 0, 0, 0, 0), some (.ireturn, 0, 0, 0, 0)]
def zC_56 : List (Option zE) := [some (.aload_n 0, 0, 0, 0, 0), some (.invokevirtual 47, 49, 0, 1, 64), none, none, some (.invokestatic 84, 57, 1, 1, 74), none, none, some (.ifCond .ne 5, 12, 0, 0, 0), none, none, some (.iconst (-1), 0, 0, 0, 0), some (.ireturn, 0, 0, 0, 0), some (.aload_n 0, 0, 0, 0, 0), some (.invokevirtual 47, 49, 0, 1, 64), none, none, some (.bipush 48, 0, 0, 0, 0), none, some (.isub, 0, 0, 0, 0), some (.istore_n 1, 0, 0, 0, 0), some (.aload_n 0, 0, 0, 0, 0), some (.dup, 0, 0, 0, 0), some (.getfield 33, 6, 3, 0, 78), none, none, some (.iconst 1, 0, 0, 0, 0), some (.iadd, 0, 0, 0, 0), some (.putfield 33, 6, 3, 0, 78), none, none, some (.iconst 1, 0, 0, 0, 0), some (.istore_n 2, 0, 0, 0, 0), some (.iload_n 2, 0, 0, 0, 0), some (.iconst 3, 0, 0, 0, 0), some (.if_icmp .ge 46, 80, 0, 0, 0), none, none, some (.iload_n 1, 0, 0, 0, 0), some (.ifCond .le 42, 80, 0, 0, 0), none, none, some (.aload_n 0, 0, 0, 0, 0), some (.invokevirtual 47, 49, 0, 1, 64), none, none, some (.invokestatic 84, 57, 1, 1, 74), none, none, some (.ifCond .eq 32, 80, 0, 0, 0), none, none, some (.iload_n 1, 0, 0, 0, 0), some (.bipush 10, 0, 0, 0, 0), none, some (.imul, 0, 0, 0, 0), some (.aload_n 0, 0, 0, 0, 0), some (.invokevirtual 47, 49, 0, 1, 64), none, none, some (.iadd, 0, 0, 0, 0), some (.bipush 48, 0, 0, 0, 0), none, some (.isub, 0, 0, 0, 0), some (.istore_n 1, 0, 0, 0, 0), some (.aload_n 0, 0, 0, 0, 0), some (.dup, 0, 0, 0, 0), some (.getfield 33, 6, 3, 0, 78), none, none, some (.iconst 1, 0, 0, 0, 0), some (.iadd, 0, 0, 0, 0), some (.putfield 33, 6, 3, 0, 78), none, none, some (.iinc 2 1, 0, 0, 0, 0), none, none, some (.goto (-45), 32, 0, 0, 0), none, none, some (.iload_n 1, 0, 0, 0, 0), some (.ireturn, 0, 0, 0, 0)]
def zC_57 : List (Option zE) := [some (.iload_n 0, 0, 0, 0, 0), some (.bipush 48, 0, 0, 0, 0), none, some (.if_icmp .lt 13, 16, 0, 0, 0), none, none, some (.iload_n 0, 0, 0, 0, 0), some (.bipush 57, 0, 0, 0, 0), none, some (.if_icmp .gt 7, 16, 0, 0, 0), none, none, some (.iconst 1, 0, 0, 0, 0), some (.goto 4, 17, 0, 0, 0), none, none, some (.iconst 0, 0, 0, 0, 0), some (.ireturn, 0, 0, 0, 0)]
def zC_58 : List (Option zE) := [some (.iload_n 0, 0, 0, 0, 0), some (.tableswitch 107 100 119 #[105, 107, 95, 107, 101, 107, 107, 107, 99, 107, 107, 107, 107, 107, 107, 97, 107, 107, 107, 103], 0, 0, 0, 0), none, none, none, none, none, none, none, none, none, none, none, none, none, none, none, none, none, none, none, none, none, none, none, none, none, none, none, none, none, none, none, none, none, none, none, none, none, none, none, none, none, none, none, none, none, none, none, none, none, none, none, none, none, none, none, none, none, none, none, none, none, none, none, none, none, none, none, none, none, none, none, none, none, none, none, none, none, none, none, none, none, none, none, none, none, none, none, none, none, none, none, none, none, none, some (.iconst 0, 0, 0, 0, 0), some (.ireturn, 0, 0, 0, 0), some (.iconst 1, 0, 0, 0, 0), some (.ireturn, 0, 0, 0, 0), some (.iconst 2, 0, 0, 0, 0), some (.ireturn, 0, 0, 0, 0), some (.iconst 3, 0, 0, 0, 0), some (.ireturn, 0, 0, 0, 0), some (.iconst 4, 0, 0, 0, 0), some (.ireturn, 0, 0, 0, 0), some (.iconst 5, 0, 0, 0, 0), some (.ireturn, 0, 0, 0, 0), some (.iconst (-1), 0, 0, 0, 0), some (.ireturn, 0, 0, 0, 0)]
def zC_59 : List (Option zE) := [some (.iload_n 0, 0, 0, 0, 0), some (.tableswitch 33 60 62 #[27, 31, 29], 0, 0, 0, 0), none, none, none, none, none, none, none, none, none, none, none, none, none, none, none, none, none, none, none, none, none, none, none, none, none, none, some (.iconst 0, 0, 0, 0, 0), some (.ireturn, 0, 0, 0, 0), some (.iconst 1, 0, 0, 0, 0), some (.ireturn, 0, 0, 0, 0), some (.iconst 2, 0, 0, 0, 0), some (.ireturn, 0, 0, 0, 0), some (.iconst (-1), 0, 0, 0, 0), some (.ireturn, 0, 0, 0, 0)]
def zC_60 : List (Option zE) := [some (.aload_n 0, 0, 0, 0, 0), some (.invokespecial 3, 0, 5, 0, 75), none, none, some (.aload_n 0, 0, 0, 0, 0), some (.iconst 3, 0, 0, 0, 0), some (.newarray .int, 12, 0, 0, 0), none, some (.putfield 9, 7, 1, 0, 80), none, none, some (.aload_n 0, 0, 0, 0, 0), some (.iconst 3, 0, 0, 0, 0), some (.newarray .boolean, 14, 0, 0, 0), none, some (.putfield 15, 7, 2, 0, 81), none, none, some (.return_, 0, 0, 0, 0)]
def zC_61 : List (Option zE) := [some (.aload_n 0, 0, 0, 0, 0), some (.getfield 9, 7, 1, 0, 80), none, none, some (.aload_n 0, 0, 0, 0, 0), some (.getfield 19, 7, 0, 0, 82), none, none, some (.iload_n 1, 0, 0, 0, 0), some (.iastore, 0, 0, 0, 0), some (.aload_n 0, 0, 0, 0, 0), some (.getfield 15, 7, 2, 0, 81), none, none, some (.aload_n 0, 0, 0, 0, 0), some (.getfield 19, 7, 0, 0, 82), none, none, some (.iconst 0, 0, 0, 0, 0), some (.bastore, 0, 0, 0, 0), some (.aload_n 0, 0, 0, 0, 0), some (.dup, 0, 0, 0, 0), some (.getfield 19, 7, 0, 0, 82), none, none, some (.iconst 1, 0, 0, 0, 0), some (.iadd, 0, 0, 0, 0), some (.putfield 19, 7, 0, 0, 82), none, none, some (.aload_n 0, 0, 0, 0, 0), some (.getfield 19, 7, 0, 0, 82), none, none, some (.iconst 1, 0, 0, 0, 0), some (.isub, 0, 0, 0, 0), some (.ireturn, 0, 0, 0, 0)]
def zC_62 : List (Option zE) := [some (.iconst 0, 0, 0, 0, 0), some (.istore_n 2, 0, 0, 0, 0), some (.iload_n 2, 0, 0, 0, 0), some (.aload_n 0, 0, 0, 0, 0), some (.getfield 19, 7, 0, 0, 82), none, none, some (.if_icmp .ge 21, 28, 0, 0, 0), none, none, some (.aload_n 0, 0, 0, 0, 0), some (.getfield 9, 7, 1, 0, 80), none, none, some (.iload_n 2, 0, 0, 0, 0), some (.iaload, 0, 0, 0, 0), some (.iload_n 1, 0, 0, 0, 0), some (.if_icmp .ne 5, 22, 0, 0, 0), none, none, some (.iload_n 2, 0, 0, 0, 0), some (.ireturn, 0, 0, 0, 0), some (.iinc 2 1, 0, 0, 0, 0), none, none, some (.goto (-23), 2, 0, 0, 0), none, none, some (.iconst (-1), 0, 0, 0, 0), some (.ireturn, 0, 0, 0, 0)]
def zC_63 : List (Option zE) := [some (.iconst 0, 0, 0, 0, 0), some (.istore_n 1, 0, 0, 0, 0), some (.iconst 0, 0, 0, 0, 0), some (.istore_n 2, 0, 0, 0, 0), some (.iload_n 2, 0, 0, 0, 0), some (.aload_n 0, 0, 0, 0, 0), some (.getfield 19, 7, 0, 0, 82), none, none, some (.if_icmp .ge 21, 30, 0, 0, 0), none, none, some (.aload_n 0, 0, 0, 0, 0), some (.getfield 15, 7, 2, 0, 81), none, none, some (.iload_n 2, 0, 0, 0, 0), some (.baload, 0, 0, 0, 0), some (.ifCond .eq 6, 24, 0, 0, 0), none, none, some (.iinc 1 1, 0, 0, 0, 0), none, none, some (.iinc 2 1, 0, 0, 0, 0), none, none, some (.goto (-23), 4, 0, 0, 0), none, none, some (.iload_n 1, 0, 0, 0, 0), some (.ireturn, 0, 0, 0, 0)]
def zC_64 : List (Option zE) := [some (.aload_n 0, 0, 0, 0, 0), some (.aload_n 1, 0, 0, 0, 0), some (.getfield 19, 7, 0, 0, 82), none, none, some (.putfield 19, 7, 0, 0, 82), none, none, some (.iconst 0, 0, 0, 0, 0), some (.istore_n 2, 0, 0, 0, 0), some (.iload_n 2, 0, 0, 0, 0), some (.aload_n 0, 0, 0, 0, 0), some (.getfield 19, 7, 0, 0, 82), none, none, some (.if_icmp .ge 33, 48, 0, 0, 0), none, none, some (.aload_n 0, 0, 0, 0, 0), some (.getfield 9, 7, 1, 0, 80), none, none, some (.iload_n 2, 0, 0, 0, 0), some (.aload_n 1, 0, 0, 0, 0), some (.getfield 9, 7, 1, 0, 80), none, none, some (.iload_n 2, 0, 0, 0, 0), some (.iaload, 0, 0, 0, 0), some (.iastore, 0, 0, 0, 0), some (.aload_n 0, 0, 0, 0, 0), some (.getfield 15, 7, 2, 0, 81), none, none, some (.iload_n 2, 0, 0, 0, 0), some (.aload_n 1, 0, 0, 0, 0), some (.getfield 15, 7, 2, 0, 81), none, none, some (.iload_n 2, 0, 0, 0, 0), some (.baload, 0, 0, 0, 0), some (.bastore, 0, 0, 0, 0), some (.iinc 2 1, 0, 0, 0, 0), none, none, some (.goto (-35), 10, 0, 0, 0), none, none, some (.return_, 0, 0, 0, 0)]
def zC_65 : List (Option zE) := [some (.aload_n 0, 0, 0, 0, 0), some (.invokespecial 3, 0, 5, 0, 76), none, none, some (.aload_n 0, 0, 0, 0, 0), some (.iconst 0, 0, 0, 0, 0), some (.putfield 9, 8, 0, 0, 83), none, none, some (.aload_n 0, 0, 0, 0, 0), some (.bipush 96, 0, 0, 0, 0), none, some (.newarray .long, 13, 0, 0, 0), none, some (.putfield 15, 8, 4, 0, 84), none, none, some (.return_, 0, 0, 0, 0)]
def zC_66 : List (Option zE) := [some (.aload_n 0, 0, 0, 0, 0), some (.iconst 1, 0, 0, 0, 0), some (.putfield 9, 8, 0, 0, 83), none, none, some (.aload_n 0, 0, 0, 0, 0), some (.iload_n 1, 0, 0, 0, 0), some (.putfield 19, 8, 1, 0, 85), none, none, some (.aload_n 0, 0, 0, 0, 0), some (.iload_n 2, 0, 0, 0, 0), some (.putfield 22, 8, 2, 0, 86), none, none, some (.aload_n 0, 0, 0, 0, 0), some (.getfield 15, 8, 4, 0, 84), none, none, some (.lconst 0, 0, 0, 0, 0), some (.invokestatic 25, 189, 1, 2, 77), none, none, some (.return_, 0, 0, 0, 0)]
def zC_67 : List (Option zE) := [some (.aload_n 0, 0, 0, 0, 0), some (.getfield 19, 8, 1, 0, 85), none, none, some (.tableswitch 66 0 2 #[28, 41, 54], 0, 0, 0, 0), none, none, none, none, none, none, none, none, none, none, none, none, none, none, none, none, none, none, none, none, none, none, none, none, none, none, none, some (.aload_n 0, 0, 0, 0, 0), some (.getfield 15, 8, 4, 0, 84), none, none, some (.iload_n 1, 0, 0, 0, 0), some (.lload_n 2, 0, 0, 0, 0), some (.l2i, 0, 0, 0, 0), some (.i2b, 0, 0, 0, 0), some (.i2l, 0, 0, 0, 0), some (.lastore, 0, 0, 0, 0), some (.goto 35, 77, 0, 0, 0), none, none, some (.aload_n 0, 0, 0, 0, 0), some (.getfield 15, 8, 4, 0, 84), none, none, some (.iload_n 1, 0, 0, 0, 0), some (.lload_n 2, 0, 0, 0, 0), some (.l2i, 0, 0, 0, 0), some (.i2s, 0, 0, 0, 0), some (.i2l, 0, 0, 0, 0), some (.lastore, 0, 0, 0, 0), some (.goto 22, 77, 0, 0, 0), none, none, some (.aload_n 0, 0, 0, 0, 0), some (.getfield 15, 8, 4, 0, 84), none, none, some (.iload_n 1, 0, 0, 0, 0), some (.lload_n 2, 0, 0, 0, 0), some (.l2i, 0, 0, 0, 0), some (.i2l, 0, 0, 0, 0), some (.lastore, 0, 0, 0, 0), some (.goto 10, 77, 0, 0, 0), none, none, some (.aload_n 0, 0, 0, 0, 0), some (.getfield 15, 8, 4, 0, 84), none, none, some (.iload_n 1, 0, 0, 0, 0), some (.lload_n 2, 0, 0, 0, 0), some (.lastore, 0, 0, 0, 0), some (.return_, 0, 0, 0, 0)]
def zC_68 : List (Option zE) := [some (.iload_n 1, 0, 0, 0, 0), some (.ifCond .lt 21, 22, 0, 0, 0), none, none, some (.iload_n 1, 0, 0, 0, 0), some (.i2l, 0, 0, 0, 0), some (.iload_n 2, 0, 0, 0, 0), some (.i2l, 0, 0, 0, 0), some (.ladd, 0, 0, 0, 0), some (.aload_n 0, 0, 0, 0, 0), some (.getfield 22, 8, 2, 0, 86), none, none, some (.i2l, 0, 0, 0, 0), some (.lcmp, 0, 0, 0, 0), some (.ifCond .gt 7, 22, 0, 0, 0), none, none, some (.iconst 1, 0, 0, 0, 0), some (.goto 4, 23, 0, 0, 0), none, none, some (.iconst 0, 0, 0, 0, 0), some (.ireturn, 0, 0, 0, 0)]
def zC_69 : List (Option zE) := [some (.aload_n 0, 0, 0, 0, 0), some (.getfield 19, 8, 1, 0, 85), none, none, some (.tableswitch 85 0 2 #[28, 47, 66], 0, 0, 0, 0), none, none, none, none, none, none, none, none, none, none, none, none, none, none, none, none, none, none, none, none, none, none, none, none, none, none, none, some (.aload_n 0, 0, 0, 0, 0), some (.getfield 15, 8, 4, 0, 84), none, none, some (.iload_n 1, 0, 0, 0, 0), some (.laload, 0, 0, 0, 0), some (.ldc2_w 31, 0, 0, -128, 1), none, none, some (.lcmp, 0, 0, 0, 0), some (.ifCond .ne 7, 49, 0, 0, 0), none, none, some (.iconst 1, 0, 0, 0, 0), some (.goto 4, 50, 0, 0, 0), none, none, some (.iconst 0, 0, 0, 0, 0), some (.ireturn, 0, 0, 0, 0), some (.aload_n 0, 0, 0, 0, 0), some (.getfield 15, 8, 4, 0, 84), none, none, some (.iload_n 1, 0, 0, 0, 0), some (.laload, 0, 0, 0, 0), some (.ldc2_w 33, 0, 0, -32768, 2), none, none, some (.lcmp, 0, 0, 0, 0), some (.ifCond .ne 7, 68, 0, 0, 0), none, none, some (.iconst 1, 0, 0, 0, 0), some (.goto 4, 69, 0, 0, 0), none, none, some (.iconst 0, 0, 0, 0, 0), some (.ireturn, 0, 0, 0, 0), some (.aload_n 0, 0, 0, 0, 0), some (.getfield 15, 8, 4, 0, 84), none, none, some (.iload_n 1, 0, 0, 0, 0), some (.laload, 0, 0, 0, 0), some (.ldc2_w 35, 0, 0, -2147483648, 3), none, none, some (.lcmp, 0, 0, 0, 0), some (.ifCond .ne 7, 87, 0, 0, 0), none, none, some (.iconst 1, 0, 0, 0, 0), some (.goto 4, 88, 0, 0, 0), none, none, some (.iconst 0, 0, 0, 0, 0), some (.ireturn, 0, 0, 0, 0), some (.aload_n 0, 0, 0, 0, 0), some (.getfield 15, 8, 4, 0, 84), none, none, some (.iload_n 1, 0, 0, 0, 0), some (.laload, 0, 0, 0, 0), some (.ldc2_w 37, 0, 0, -9223372036854775808, 4), none, none, some (.lcmp, 0, 0, 0, 0), some (.ifCond .ne 7, 106, 0, 0, 0), none, none, some (.iconst 1, 0, 0, 0, 0), some (.goto 4, 107, 0, 0, 0), none, none, some (.iconst 0, 0, 0, 0, 0), some (.ireturn, 0, 0, 0, 0)]
def zC_70 : List (Option zE) := [some (.aload_n 0, 0, 0, 0, 0), some (.invokespecial 3, 0, 5, 0, 78), none, none, some (.aload_n 0, 0, 0, 0, 0), some (.bipush 96, 0, 0, 0, 0), none, some (.newarray .int, 12, 0, 0, 0), none, some (.putfield 9, 9, 1, 0, 87), none, none, some (.return_, 0, 0, 0, 0)]
def zC_71 : List (Option zE) := [some (.aload_n 0, 0, 0, 0, 0), some (.aload_n 1, 0, 0, 0, 0), some (.getfield 15, 8, 2, 0, 88), none, none, some (.putfield 21, 9, 0, 0, 89), none, none, some (.iconst 0, 0, 0, 0, 0), some (.istore_n 2, 0, 0, 0, 0), some (.iload_n 2, 0, 0, 0, 0), some (.aload_n 0, 0, 0, 0, 0), some (.getfield 21, 9, 0, 0, 89), none, none, some (.if_icmp .ge 49, 64, 0, 0, 0), none, none, some (.sipush (-300), 0, 0, 0, 0), none, none, some (.sipush 300, 0, 0, 0, 0), none, none, some (.aload_n 1, 0, 0, 0, 0), some (.getfield 22, 8, 4, 0, 90), none, none, some (.iload_n 2, 0, 0, 0, 0), some (.laload, 0, 0, 0, 0), some (.l2i, 0, 0, 0, 0), some (.invokestatic 26, 0, 8, 0, 79), none, none, some (.invokestatic 32, 0, 7, 0, 80), none, none, some (.istore_n 3, 0, 0, 0, 0), some (.aload_n 0, 0, 0, 0, 0), some (.getfield 9, 9, 1, 0, 87), none, none, some (.iload_n 2, 0, 0, 0, 0), some (.aload_n 1, 0, 0, 0, 0), some (.iload_n 2, 0, 0, 0, 0), some (.invokevirtual 35, 69, 0, 2, 81), none, none, some (.ifCond .eq 8, 56, 0, 0, 0), none, none, some (.bipush 30, 0, 0, 0, 0), none, some (.goto 4, 57, 0, 0, 0), none, none, some (.iload_n 3, 0, 0, 0, 0), some (.iastore, 0, 0, 0, 0), some (.iinc 2 1, 0, 0, 0, 0), none, none, some (.goto (-51), 10, 0, 0, 0), none, none, some (.return_, 0, 0, 0, 0)]
def zC_72 : List (Option zE) := [some (.aload_n 0, 0, 0, 0, 0), some (.aload_n 1, 0, 0, 0, 0), some (.getfield 21, 9, 0, 0, 89), none, none, some (.putfield 21, 9, 0, 0, 89), none, none, some (.aload_n 1, 0, 0, 0, 0), some (.getfield 9, 9, 1, 0, 87), none, none, some (.iconst 0, 0, 0, 0, 0), some (.aload_n 0, 0, 0, 0, 0), some (.getfield 9, 9, 1, 0, 87), none, none, some (.iconst 0, 0, 0, 0, 0), some (.bipush 96, 0, 0, 0, 0), none, some (.invokestatic 39, 0, 6, 0, 82), none, none, some (.return_, 0, 0, 0, 0)]
def zC_73 : List (Option zE) := [some (.aload_n 0, 0, 0, 0, 0), some (.getfield 21, 9, 0, 0, 89), none, none, some (.ifCond .le 7, 11, 0, 0, 0), none, none, some (.iload_n 1, 0, 0, 0, 0), some (.ifCond .ge 7, 15, 0, 0, 0), none, none, some (.iconst 0, 0, 0, 0, 0), some (.goto 14, 26, 0, 0, 0), none, none, some (.aload_n 0, 0, 0, 0, 0), some (.getfield 9, 9, 1, 0, 87), none, none, some (.iload_n 1, 0, 0, 0, 0), some (.aload_n 0, 0, 0, 0, 0), some (.getfield 21, 9, 0, 0, 89), none, none, some (.irem, 0, 0, 0, 0), some (.iaload, 0, 0, 0, 0), some (.ireturn, 0, 0, 0, 0)]
def zC_74 : List (Option zE) := [some (.aload_n 0, 0, 0, 0, 0), some (.invokespecial 1, 0, 5, 0, 83), none, none, some (.aload_n 0, 0, 0, 0, 0), some (.new 7, 2, 0, 0, 8), none, none, some (.dup, 0, 0, 0, 0), some (.invokespecial 9, 9, 2, 1, 84), none, none, some (.putfield 10, 10, 0, 0, 91), none, none, some (.aload_n 0, 0, 0, 0, 0), some (.new 7, 2, 0, 0, 8), none, none, some (.dup, 0, 0, 0, 0), some (.invokespecial 9, 9, 2, 1, 84), none, none, some (.putfield 16, 10, 1, 0, 92), none, none, some (.aload_n 0, 0, 0, 0, 0), some (.new 7, 2, 0, 0, 8), none, none, some (.dup, 0, 0, 0, 0), some (.invokespecial 9, 9, 2, 1, 84), none, none, some (.putfield 19, 10, 2, 0, 93), none, none, some (.aload_n 0, 0, 0, 0, 0), some (.bipush 8, 0, 0, 0, 0), none, some (.anewarray 22, 18, 0, 0, 3), none, none, some (.putfield 24, 10, 4, 0, 94), none, none, some (.aload_n 0, 0, 0, 0, 0), some (.bipush 8, 0, 0, 0, 0), none, some (.newarray .int, 12, 0, 0, 0), none, some (.putfield 28, 10, 5, 0, 95), none, none, some (.aload_n 0, 0, 0, 0, 0), some (.new 32, 6, 0, 0, 10), none, none, some (.dup, 0, 0, 0, 0), some (.invokespecial 34, 47, 4, 1, 85), none, none, some (.putfield 35, 10, 6, 0, 96), none, none, some (.aload_n 0, 0, 0, 0, 0), some (.iconst (-1), 0, 0, 0, 0), some (.putfield 39, 10, 7, 0, 97), none, none, some (.iconst 0, 0, 0, 0, 0), some (.istore_n 1, 0, 0, 0, 0), some (.iload_n 1, 0, 0, 0, 0), some (.bipush 8, 0, 0, 0, 0), none, some (.if_icmp .ge 22, 97, 0, 0, 0), none, none, some (.aload_n 0, 0, 0, 0, 0), some (.getfield 24, 10, 4, 0, 94), none, none, some (.iload_n 1, 0, 0, 0, 0), some (.new 22, 8, 0, 0, 9), none, none, some (.dup, 0, 0, 0, 0), some (.invokespecial 43, 65, 4, 1, 86), none, none, some (.aastore, 0, 0, 0, 0), some (.iinc 1 1, 0, 0, 0, 0), none, none, some (.goto (-22), 72, 0, 0, 0), none, none, some (.return_, 0, 0, 0, 0)]
def zC_75 : List (Option zE) := [some (.iload_n 1, 0, 0, 0, 0), some (.invokestatic 44, 115, 1, 1, 87), none, none, some (.ifCond .ne 9, 13, 0, 0, 0), none, none, some (.aload_n 0, 0, 0, 0, 0), some (.iconst (-1), 0, 0, 0, 0), some (.invokevirtual 48, 113, 0, 2, 88), none, none, some (.ireturn, 0, 0, 0, 0), some (.iload_n 2, 0, 0, 0, 0), some (.iconst 0, 0, 0, 0, 0), some (.bipush 60, 0, 0, 0, 0), none, some (.invokestatic 52, 114, 1, 3, 89), none, none, some (.ifCond .ne 10, 30, 0, 0, 0), none, none, some (.aload_n 0, 0, 0, 0, 0), some (.bipush (-6), 0, 0, 0, 0), none, some (.invokevirtual 48, 113, 0, 2, 88), none, none, some (.ireturn, 0, 0, 0, 0), some (.aload_n 0, 0, 0, 0, 0), some (.getfield 10, 10, 0, 0, 91), none, none, some (.getfield 56, 2, 0, 0, 98), none, none, some (.getfield 60, 4, 0, 0, 99), none, none, some (.iload_n 1, 0, 0, 0, 0), some (.iaload, 0, 0, 0, 0), some (.istore_n 3, 0, 0, 0, 0), some (.aload_n 0, 0, 0, 0, 0), some (.getfield 10, 10, 0, 0, 91), none, none, some (.getfield 56, 2, 0, 0, 98), none, none, some (.getfield 60, 4, 0, 0, 99), none, none, some (.iload_n 1, 0, 0, 0, 0), some (.iload_n 2, 0, 0, 0, 0), some (.iastore, 0, 0, 0, 0), some (.iload_n 3, 0, 0, 0, 0), some (.ireturn, 0, 0, 0, 0)]
def zC_76 : List (Option zE) := [some (.iload_n 1, 0, 0, 0, 0), some (.invokestatic 44, 115, 1, 1, 87), none, none, some (.ifCond .ne 9, 13, 0, 0, 0), none, none, some (.aload_n 0, 0, 0, 0, 0), some (.iconst (-1), 0, 0, 0, 0), some (.invokevirtual 48, 113, 0, 2, 88), none, none, some (.ireturn, 0, 0, 0, 0), some (.iload_n 2, 0, 0, 0, 0), some (.sipush (-300), 0, 0, 0, 0), none, none, some (.sipush 300, 0, 0, 0, 0), none, none, some (.invokestatic 52, 114, 1, 3, 89), none, none, some (.ifCond .ne 10, 33, 0, 0, 0), none, none, some (.aload_n 0, 0, 0, 0, 0), some (.bipush (-6), 0, 0, 0, 0), none, some (.invokevirtual 48, 113, 0, 2, 88), none, none, some (.ireturn, 0, 0, 0, 0), some (.aload_n 0, 0, 0, 0, 0), some (.getfield 10, 10, 0, 0, 91), none, none, some (.getfield 56, 2, 0, 0, 98), none, none, some (.getfield 65, 4, 1, 0, 100), none, none, some (.iload_n 1, 0, 0, 0, 0), some (.iaload, 0, 0, 0, 0), some (.istore_n 3, 0, 0, 0, 0), some (.aload_n 0, 0, 0, 0, 0), some (.getfield 10, 10, 0, 0, 91), none, none, some (.getfield 56, 2, 0, 0, 98), none, none, some (.getfield 65, 4, 1, 0, 100), none, none, some (.iload_n 1, 0, 0, 0, 0), some (.iload_n 2, 0, 0, 0, 0), some (.iastore, 0, 0, 0, 0), some (.aload_n 0, 0, 0, 0, 0), some (.getfield 10, 10, 0, 0, 91), none, none, some (.dup, 0, 0, 0, 0), some (.getfield 68, 2, 16, 0, 101), none, none, some (.iload_n 2, 0, 0, 0, 0), some (.iload_n 3, 0, 0, 0, 0), some (.isub, 0, 0, 0, 0), some (.iadd, 0, 0, 0, 0), some (.putfield 68, 2, 16, 0, 101), none, none, some (.iload_n 3, 0, 0, 0, 0), some (.ireturn, 0, 0, 0, 0)]
def zC_77 : List (Option zE) := [some (.iload_n 1, 0, 0, 0, 0), some (.iload_n 2, 0, 0, 0, 0), some (.invokestatic 71, 30, 1, 2, 90), none, none, some (.istore 4, 0, 0, 0, 0), none, some (.iload 4, 0, 0, 0, 0), none, some (.iconst (-1), 0, 0, 0, 0), some (.if_icmp .ne 9, 19, 0, 0, 0), none, none, some (.aload_n 0, 0, 0, 0, 0), some (.iconst (-1), 0, 0, 0, 0), some (.invokevirtual 48, 113, 0, 2, 88), none, none, some (.ireturn, 0, 0, 0, 0), some (.aload_n 0, 0, 0, 0, 0), some (.getfield 10, 10, 0, 0, 91), none, none, some (.getfield 56, 2, 0, 0, 98), none, none, some (.getfield 75, 4, 5, 0, 102), none, none, some (.iload 4, 0, 0, 0, 0), none, some (.iload_n 3, 0, 0, 0, 0), some (.invokestatic 79, 121, 1, 3, 91), none, none, some (.ireturn, 0, 0, 0, 0)]
def zC_78 : List (Option zE) := [some (.iload_n 1, 0, 0, 0, 0), some (.iload_n 2, 0, 0, 0, 0), some (.invokestatic 71, 30, 1, 2, 90), none, none, some (.istore 4, 0, 0, 0, 0), none, some (.iload 4, 0, 0, 0, 0), none, some (.iconst (-1), 0, 0, 0, 0), some (.if_icmp .ne 9, 19, 0, 0, 0), none, none, some (.aload_n 0, 0, 0, 0, 0), some (.iconst (-1), 0, 0, 0, 0), some (.invokevirtual 48, 113, 0, 2, 88), none, none, some (.ireturn, 0, 0, 0, 0), some (.aload_n 0, 0, 0, 0, 0), some (.getfield 10, 10, 0, 0, 91), none, none, some (.getfield 56, 2, 0, 0, 98), none, none, some (.getfield 83, 4, 6, 0, 103), none, none, some (.iload 4, 0, 0, 0, 0), none, some (.iload_n 3, 0, 0, 0, 0), some (.invokestatic 79, 121, 1, 3, 91), none, none, some (.ireturn, 0, 0, 0, 0)]
def zC_79 : List (Option zE) := [some (.iload_n 1, 0, 0, 0, 0), some (.iload_n 2, 0, 0, 0, 0), some (.invokestatic 71, 30, 1, 2, 90), none, none, some (.istore 4, 0, 0, 0, 0), none, some (.iload 4, 0, 0, 0, 0), none, some (.iconst (-1), 0, 0, 0, 0), some (.if_icmp .ne 9, 19, 0, 0, 0), none, none, some (.aload_n 0, 0, 0, 0, 0), some (.iconst (-1), 0, 0, 0, 0), some (.invokevirtual 48, 113, 0, 2, 88), none, none, some (.ireturn, 0, 0, 0, 0), some (.iload_n 3, 0, 0, 0, 0), some (.iconst (-1), 0, 0, 0, 0), some (.bipush 99, 0, 0, 0, 0), none, some (.invokestatic 52, 114, 1, 3, 89), none, none, some (.ifCond .ne 10, 36, 0, 0, 0), none, none, some (.aload_n 0, 0, 0, 0, 0), some (.bipush (-6), 0, 0, 0, 0), none, some (.invokevirtual 48, 113, 0, 2, 88), none, none, some (.ireturn, 0, 0, 0, 0), some (.aload_n 0, 0, 0, 0, 0), some (.getfield 10, 10, 0, 0, 91), none, none, some (.getfield 56, 2, 0, 0, 98), none, none, some (.getfield 86, 4, 4, 0, 104), none, none, some (.iload 4, 0, 0, 0, 0), none, some (.iaload, 0, 0, 0, 0), some (.istore 5, 0, 0, 0, 0), none, some (.aload_n 0, 0, 0, 0, 0), some (.getfield 10, 10, 0, 0, 91), none, none, some (.getfield 56, 2, 0, 0, 98), none, none, some (.getfield 86, 4, 4, 0, 104), none, none, some (.iload 4, 0, 0, 0, 0), none, some (.iload_n 3, 0, 0, 0, 0), some (.iastore, 0, 0, 0, 0), some (.iload 5, 0, 0, 0, 0), none, some (.ireturn, 0, 0, 0, 0)]
def zC_80 : List (Option zE) := [some (.iload_n 1, 0, 0, 0, 0), some (.invokestatic 44, 115, 1, 1, 87), none, none, some (.ifCond .ne 9, 13, 0, 0, 0), none, none, some (.aload_n 0, 0, 0, 0, 0), some (.iconst (-1), 0, 0, 0, 0), some (.invokevirtual 48, 113, 0, 2, 88), none, none, some (.ireturn, 0, 0, 0, 0), some (.iload_n 2, 0, 0, 0, 0), some (.iconst 1, 0, 0, 0, 0), some (.bipush 20, 0, 0, 0, 0), none, some (.invokestatic 52, 114, 1, 3, 89), none, none, some (.ifCond .ne 10, 30, 0, 0, 0), none, none, some (.aload_n 0, 0, 0, 0, 0), some (.bipush (-6), 0, 0, 0, 0), none, some (.invokevirtual 48, 113, 0, 2, 88), none, none, some (.ireturn, 0, 0, 0, 0), some (.aload_n 0, 0, 0, 0, 0), some (.getfield 10, 10, 0, 0, 91), none, none, some (.getfield 56, 2, 0, 0, 98), none, none, some (.getfield 60, 4, 0, 0, 99), none, none, some (.iload_n 1, 0, 0, 0, 0), some (.bipush 60, 0, 0, 0, 0), none, some (.aload_n 0, 0, 0, 0, 0), some (.getfield 10, 10, 0, 0, 91), none, none, some (.getfield 56, 2, 0, 0, 98), none, none, some (.getfield 60, 4, 0, 0, 99), none, none, some (.iload_n 1, 0, 0, 0, 0), some (.iaload, 0, 0, 0, 0), some (.iload_n 2, 0, 0, 0, 0), some (.iadd, 0, 0, 0, 0), some (.invokestatic 89, 0, 8, 0, 92), none, none, some (.iastore, 0, 0, 0, 0), some (.aload_n 0, 0, 0, 0, 0), some (.getfield 10, 10, 0, 0, 91), none, none, some (.getfield 56, 2, 0, 0, 98), none, none, some (.getfield 60, 4, 0, 0, 99), none, none, some (.iload_n 1, 0, 0, 0, 0), some (.iaload, 0, 0, 0, 0), some (.ireturn, 0, 0, 0, 0)]
def zC_81 : List (Option zE) := [some (.iload_n 1, 0, 0, 0, 0), some (.invokestatic 44, 115, 1, 1, 87), none, none, some (.ifCond .ne 9, 13, 0, 0, 0), none, none, some (.aload_n 0, 0, 0, 0, 0), some (.iconst (-1), 0, 0, 0, 0), some (.invokevirtual 48, 113, 0, 2, 88), none, none, some (.ireturn, 0, 0, 0, 0), some (.aload_n 0, 0, 0, 0, 0), some (.getfield 10, 10, 0, 0, 91), none, none, some (.getfield 94, 2, 1, 0, 105), none, none, some (.iload_n 1, 0, 0, 0, 0), some (.invokevirtual 98, 62, 0, 2, 93), none, none, some (.iconst (-1), 0, 0, 0, 0), some (.if_icmp .eq 10, 35, 0, 0, 0), none, none, some (.aload_n 0, 0, 0, 0, 0), some (.bipush (-6), 0, 0, 0, 0), none, some (.invokevirtual 48, 113, 0, 2, 88), none, none, some (.ireturn, 0, 0, 0, 0), some (.aload_n 0, 0, 0, 0, 0), some (.getfield 10, 10, 0, 0, 91), none, none, some (.getfield 94, 2, 1, 0, 105), none, none, some (.getfield 103, 7, 0, 0, 106), none, none, some (.iconst 3, 0, 0, 0, 0), some (.if_icmp .lt 10, 56, 0, 0, 0), none, none, some (.aload_n 0, 0, 0, 0, 0), some (.bipush (-7), 0, 0, 0, 0), none, some (.invokevirtual 48, 113, 0, 2, 88), none, none, some (.ireturn, 0, 0, 0, 0), some (.aload_n 0, 0, 0, 0, 0), some (.getfield 10, 10, 0, 0, 91), none, none, some (.getfield 94, 2, 1, 0, 105), none, none, some (.iload_n 1, 0, 0, 0, 0), some (.invokevirtual 106, 61, 0, 2, 94), none, none, some (.ireturn, 0, 0, 0, 0)]
def zC_82 : List (Option zE) := [some (.iload_n 1, 0, 0, 0, 0), some (.iconst 0, 0, 0, 0, 0), some (.aload_n 0, 0, 0, 0, 0), some (.getfield 10, 10, 0, 0, 91), none, none, some (.getfield 94, 2, 1, 0, 105), none, none, some (.getfield 103, 7, 0, 0, 106), none, none, some (.iconst 1, 0, 0, 0, 0), some (.isub, 0, 0, 0, 0), some (.invokestatic 52, 114, 1, 3, 89), none, none, some (.ifCond .ne 9, 26, 0, 0, 0), none, none, some (.aload_n 0, 0, 0, 0, 0), some (.iconst (-1), 0, 0, 0, 0), some (.invokevirtual 48, 113, 0, 2, 88), none, none, some (.ireturn, 0, 0, 0, 0), some (.aload_n 0, 0, 0, 0, 0), some (.getfield 10, 10, 0, 0, 91), none, none, some (.getfield 94, 2, 1, 0, 105), none, none, some (.getfield 109, 7, 2, 0, 107), none, none, some (.iload_n 1, 0, 0, 0, 0), some (.iload_n 2, 0, 0, 0, 0), some (.invokestatic 79, 121, 1, 3, 91), none, none, some (.ireturn, 0, 0, 0, 0)]
def zC_83 : List (Option zE) := [some (.iload_n 1, 0, 0, 0, 0), some (.invokestatic 112, 116, 1, 1, 95), none, none, some (.ifCond .ne 9, 13, 0, 0, 0), none, none, some (.aload_n 0, 0, 0, 0, 0), some (.iconst (-1), 0, 0, 0, 0), some (.invokevirtual 48, 113, 0, 2, 88), none, none, some (.ireturn, 0, 0, 0, 0), some (.iload_n 3, 0, 0, 0, 0), some (.ifCond .ge 10, 24, 0, 0, 0), none, none, some (.aload_n 0, 0, 0, 0, 0), some (.bipush (-4), 0, 0, 0, 0), none, some (.invokevirtual 48, 113, 0, 2, 88), none, none, some (.ireturn, 0, 0, 0, 0), some (.iload_n 2, 0, 0, 0, 0), some (.iconst 0, 0, 0, 0, 0), some (.iconst 3, 0, 0, 0, 0), some (.invokestatic 52, 114, 1, 3, 89), none, none, some (.ifCond .ne 10, 40, 0, 0, 0), none, none, some (.aload_n 0, 0, 0, 0, 0), some (.bipush (-6), 0, 0, 0, 0), none, some (.invokevirtual 48, 113, 0, 2, 88), none, none, some (.ireturn, 0, 0, 0, 0), some (.iload_n 3, 0, 0, 0, 0), some (.bipush 96, 0, 0, 0, 0), none, some (.if_icmp .le 10, 53, 0, 0, 0), none, none, some (.aload_n 0, 0, 0, 0, 0), some (.bipush (-7), 0, 0, 0, 0), none, some (.invokevirtual 48, 113, 0, 2, 88), none, none, some (.ireturn, 0, 0, 0, 0), some (.aload_n 0, 0, 0, 0, 0), some (.getfield 24, 10, 4, 0, 94), none, none, some (.iload_n 1, 0, 0, 0, 0), some (.aaload, 0, 0, 0, 0), some (.iload_n 2, 0, 0, 0, 0), some (.iload_n 3, 0, 0, 0, 0), some (.invokevirtual 115, 66, 0, 3, 96), none, none, some (.iconst 1, 0, 0, 0, 0), some (.ireturn, 0, 0, 0, 0)]
def zC_84 : List (Option zE) := [some (.aload_n 0, 0, 0, 0, 0), some (.iload_n 1, 0, 0, 0, 0), some (.invokevirtual 119, 119, 0, 2, 97), none, none, some (.istore 5, 0, 0, 0, 0), none, some (.iload 5, 0, 0, 0, 0), none, some (.ifCond .eq 10, 19, 0, 0, 0), none, none, some (.aload_n 0, 0, 0, 0, 0), some (.iload 5, 0, 0, 0, 0), none, some (.invokevirtual 48, 113, 0, 2, 88), none, none, some (.ireturn, 0, 0, 0, 0), some (.iload_n 2, 0, 0, 0, 0), some (.iconst 0, 0, 0, 0, 0), some (.aload_n 0, 0, 0, 0, 0), some (.getfield 24, 10, 4, 0, 94), none, none, some (.iload_n 1, 0, 0, 0, 0), some (.aaload, 0, 0, 0, 0), some (.getfield 122, 8, 2, 0, 108), none, none, some (.iconst 1, 0, 0, 0, 0), some (.isub, 0, 0, 0, 0), some (.invokestatic 52, 114, 1, 3, 89), none, none, some (.ifCond .ne 10, 45, 0, 0, 0), none, none, some (.aload_n 0, 0, 0, 0, 0), some (.bipush (-5), 0, 0, 0, 0), none, some (.invokevirtual 48, 113, 0, 2, 88), none, none, some (.ireturn, 0, 0, 0, 0), some (.aload_n 0, 0, 0, 0, 0), some (.getfield 24, 10, 4, 0, 94), none, none, some (.iload_n 1, 0, 0, 0, 0), some (.aaload, 0, 0, 0, 0), some (.iload_n 2, 0, 0, 0, 0), some (.lload_n 3, 0, 0, 0, 0), some (.invokevirtual 125, 67, 0, 3, 98), none, none, some (.iconst 1, 0, 0, 0, 0), some (.ireturn, 0, 0, 0, 0)]
def zC_85 : List (Option zE) := [some (.aload_n 0, 0, 0, 0, 0), some (.iload_n 1, 0, 0, 0, 0), some (.iload_n 2, 0, 0, 0, 0), some (.invokevirtual 129, 120, 0, 3, 99), none, none, some (.istore 6, 0, 0, 0, 0), none, some (.iload 6, 0, 0, 0, 0), none, some (.ifCond .eq 10, 20, 0, 0, 0), none, none, some (.aload_n 0, 0, 0, 0, 0), some (.iload 6, 0, 0, 0, 0), none, some (.invokevirtual 48, 113, 0, 2, 88), none, none, some (.ireturn, 0, 0, 0, 0), some (.iload 5, 0, 0, 0, 0), none, some (.ifCond .ge 10, 32, 0, 0, 0), none, none, some (.aload_n 0, 0, 0, 0, 0), some (.bipush (-4), 0, 0, 0, 0), none, some (.invokevirtual 48, 113, 0, 2, 88), none, none, some (.ireturn, 0, 0, 0, 0), some (.aload_n 0, 0, 0, 0, 0), some (.getfield 24, 10, 4, 0, 94), none, none, some (.iload_n 1, 0, 0, 0, 0), some (.aaload, 0, 0, 0, 0), some (.iload_n 3, 0, 0, 0, 0), some (.iload 5, 0, 0, 0, 0), none, some (.invokevirtual 132, 68, 0, 3, 100), none, none, some (.ifCond .eq 19, 63, 0, 0, 0), none, none, some (.aload_n 0, 0, 0, 0, 0), some (.getfield 24, 10, 4, 0, 94), none, none, some (.iload_n 2, 0, 0, 0, 0), some (.aaload, 0, 0, 0, 0), some (.iload 4, 0, 0, 0, 0), none, some (.iload 5, 0, 0, 0, 0), none, some (.invokevirtual 132, 68, 0, 3, 100), none, none, some (.ifCond .ne 10, 70, 0, 0, 0), none, none, some (.aload_n 0, 0, 0, 0, 0), some (.bipush (-5), 0, 0, 0, 0), none, some (.invokevirtual 48, 113, 0, 2, 88), none, none, some (.ireturn, 0, 0, 0, 0), some (.aload_n 0, 0, 0, 0, 0), some (.getfield 24, 10, 4, 0, 94), none, none, some (.iload_n 1, 0, 0, 0, 0), some (.aaload, 0, 0, 0, 0), some (.getfield 136, 8, 4, 0, 109), none, none, some (.iload_n 3, 0, 0, 0, 0), some (.aload_n 0, 0, 0, 0, 0), some (.getfield 24, 10, 4, 0, 94), none, none, some (.iload_n 2, 0, 0, 0, 0), some (.aaload, 0, 0, 0, 0), some (.getfield 136, 8, 4, 0, 109), none, none, some (.iload 4, 0, 0, 0, 0), none, some (.iload 5, 0, 0, 0, 0), none, some (.invokestatic 140, 0, 6, 0, 101), none, none, some (.iconst 1, 0, 0, 0, 0), some (.ireturn, 0, 0, 0, 0)]
def zC_86 : List (Option zE) := [some (.iload_n 1, 0, 0, 0, 0), some (.invokestatic 112, 116, 1, 1, 95), none, none, some (.ifCond .eq 35, 39, 0, 0, 0), none, none, some (.aload_n 0, 0, 0, 0, 0), some (.getfield 24, 10, 4, 0, 94), none, none, some (.iload_n 1, 0, 0, 0, 0), some (.aaload, 0, 0, 0, 0), some (.getfield 146, 8, 0, 0, 110), none, none, some (.iconst 1, 0, 0, 0, 0), some (.if_icmp .ne 22, 39, 0, 0, 0), none, none, some (.iload_n 2, 0, 0, 0, 0), some (.iconst 0, 0, 0, 0, 0), some (.aload_n 0, 0, 0, 0, 0), some (.getfield 24, 10, 4, 0, 94), none, none, some (.iload_n 1, 0, 0, 0, 0), some (.aaload, 0, 0, 0, 0), some (.getfield 122, 8, 2, 0, 108), none, none, some (.iconst 1, 0, 0, 0, 0), some (.isub, 0, 0, 0, 0), some (.invokestatic 52, 114, 1, 3, 89), none, none, some (.ifCond .ne 5, 41, 0, 0, 0), none, none, some (.lconst 0, 0, 0, 0, 0), some (.lreturn, 0, 0, 0, 0), some (.aload_n 0, 0, 0, 0, 0), some (.getfield 24, 10, 4, 0, 94), none, none, some (.iload_n 1, 0, 0, 0, 0), some (.aaload, 0, 0, 0, 0), some (.getfield 136, 8, 4, 0, 109), none, none, some (.iload_n 2, 0, 0, 0, 0), some (.laload, 0, 0, 0, 0), some (.lreturn, 0, 0, 0, 0)]
def zC_87 : List (Option zE) := [some (.iload_n 1, 0, 0, 0, 0), some (.invokestatic 112, 116, 1, 1, 95), none, none, some (.ifCond .eq 16, 20, 0, 0, 0), none, none, some (.iload_n 2, 0, 0, 0, 0), some (.iconst (-1), 0, 0, 0, 0), some (.if_icmp .eq 17, 26, 0, 0, 0), none, none, some (.aload_n 0, 0, 0, 0, 0), some (.iload_n 2, 0, 0, 0, 0), some (.invokevirtual 149, 117, 0, 2, 102), none, none, some (.ifCond .ne 9, 26, 0, 0, 0), none, none, some (.aload_n 0, 0, 0, 0, 0), some (.iconst (-1), 0, 0, 0, 0), some (.invokevirtual 48, 113, 0, 2, 88), none, none, some (.ireturn, 0, 0, 0, 0), some (.iload_n 2, 0, 0, 0, 0), some (.iconst (-1), 0, 0, 0, 0), some (.if_icmp .ne 15, 43, 0, 0, 0), none, none, some (.aload_n 0, 0, 0, 0, 0), some (.getfield 24, 10, 4, 0, 94), none, none, some (.iload_n 1, 0, 0, 0, 0), some (.aaload, 0, 0, 0, 0), some (.iconst 0, 0, 0, 0, 0), some (.putfield 146, 8, 0, 0, 110), none, none, some (.iconst 0, 0, 0, 0, 0), some (.ireturn, 0, 0, 0, 0), some (.aload_n 0, 0, 0, 0, 0), some (.getfield 24, 10, 4, 0, 94), none, none, some (.iload_n 1, 0, 0, 0, 0), some (.aaload, 0, 0, 0, 0), some (.iconst 2, 0, 0, 0, 0), some (.putfield 146, 8, 0, 0, 110), none, none, some (.aload_n 0, 0, 0, 0, 0), some (.getfield 24, 10, 4, 0, 94), none, none, some (.iload_n 1, 0, 0, 0, 0), some (.aaload, 0, 0, 0, 0), some (.iload_n 2, 0, 0, 0, 0), some (.putfield 152, 8, 3, 0, 111), none, none, some (.iconst 1, 0, 0, 0, 0), some (.ireturn, 0, 0, 0, 0)]
def zC_88 : List (Option zE) := [some (.iload_n 1, 0, 0, 0, 0), some (.invokestatic 112, 116, 1, 1, 95), none, none, some (.ifCond .eq 15, 19, 0, 0, 0), none, none, some (.aload_n 0, 0, 0, 0, 0), some (.getfield 24, 10, 4, 0, 94), none, none, some (.iload_n 1, 0, 0, 0, 0), some (.aaload, 0, 0, 0, 0), some (.getfield 146, 8, 0, 0, 110), none, none, some (.ifCond .ne 5, 21, 0, 0, 0), none, none, some (.iconst (-1), 0, 0, 0, 0), some (.ireturn, 0, 0, 0, 0), some (.aload_n 0, 0, 0, 0, 0), some (.getfield 24, 10, 4, 0, 94), none, none, some (.iload_n 1, 0, 0, 0, 0), some (.aaload, 0, 0, 0, 0), some (.getfield 146, 8, 0, 0, 110), none, none, some (.iconst 2, 0, 0, 0, 0), some (.if_icmp .ne 15, 46, 0, 0, 0), none, none, some (.aload_n 0, 0, 0, 0, 0), some (.getfield 24, 10, 4, 0, 94), none, none, some (.iload_n 1, 0, 0, 0, 0), some (.aaload, 0, 0, 0, 0), some (.getfield 152, 8, 3, 0, 111), none, none, some (.goto 15, 58, 0, 0, 0), none, none, some (.bipush 100, 0, 0, 0, 0), none, some (.aload_n 0, 0, 0, 0, 0), some (.getfield 24, 10, 4, 0, 94), none, none, some (.iload_n 1, 0, 0, 0, 0), some (.aaload, 0, 0, 0, 0), some (.getfield 155, 8, 1, 0, 112), none, none, some (.iadd, 0, 0, 0, 0), some (.ireturn, 0, 0, 0, 0)]
def zC_89 : List (Option zE) := [some (.iload_n 1, 0, 0, 0, 0), some (.invokestatic 112, 116, 1, 1, 95), none, none, some (.ifCond .eq 12, 16, 0, 0, 0), none, none, some (.iload_n 2, 0, 0, 0, 0), some (.iconst 0, 0, 0, 0, 0), some (.iconst 2, 0, 0, 0, 0), some (.invokestatic 52, 114, 1, 3, 89), none, none, some (.ifCond .ne 9, 22, 0, 0, 0), none, none, some (.aload_n 0, 0, 0, 0, 0), some (.iconst (-1), 0, 0, 0, 0), some (.invokevirtual 48, 113, 0, 2, 88), none, none, some (.ireturn, 0, 0, 0, 0), some (.aload_n 0, 0, 0, 0, 0), some (.getfield 24, 10, 4, 0, 94), none, none, some (.iload_n 1, 0, 0, 0, 0), some (.aaload, 0, 0, 0, 0), some (.getfield 146, 8, 0, 0, 110), none, none, some (.iconst 1, 0, 0, 0, 0), some (.if_icmp .ne 10, 42, 0, 0, 0), none, none, some (.aload_n 0, 0, 0, 0, 0), some (.bipush (-2), 0, 0, 0, 0), none, some (.invokevirtual 48, 113, 0, 2, 88), none, none, some (.ireturn, 0, 0, 0, 0), some (.aload_n 0, 0, 0, 0, 0), some (.getfield 24, 10, 4, 0, 94), none, none, some (.iload_n 1, 0, 0, 0, 0), some (.aaload, 0, 0, 0, 0), some (.getfield 146, 8, 0, 0, 110), none, none, some (.ifCond .eq 19, 70, 0, 0, 0), none, none, some (.aload_n 0, 0, 0, 0, 0), some (.aload_n 0, 0, 0, 0, 0), some (.getfield 24, 10, 4, 0, 94), none, none, some (.iload_n 1, 0, 0, 0, 0), some (.aaload, 0, 0, 0, 0), some (.getfield 152, 8, 3, 0, 111), none, none, some (.invokevirtual 149, 117, 0, 2, 102), none, none, some (.ifCond .ne 10, 77, 0, 0, 0), none, none, some (.aload_n 0, 0, 0, 0, 0), some (.bipush (-3), 0, 0, 0, 0), none, some (.invokevirtual 48, 113, 0, 2, 88), none, none, some (.ireturn, 0, 0, 0, 0), some (.aload_n 0, 0, 0, 0, 0), some (.getfield 10, 10, 0, 0, 91), none, none, some (.getfield 158, 2, 3, 0, 113), none, none, some (.aload_n 0, 0, 0, 0, 0), some (.getfield 24, 10, 4, 0, 94), none, none, some (.iload_n 1, 0, 0, 0, 0), some (.aaload, 0, 0, 0, 0), some (.getfield 152, 8, 3, 0, 111), none, none, some (.aaload, 0, 0, 0, 0), some (.astore_n 3, 0, 0, 0, 0), some (.iload_n 2, 0, 0, 0, 0), some (.ifCond .eq 18, 114, 0, 0, 0), none, none, some (.iload_n 2, 0, 0, 0, 0), some (.aload_n 3, 0, 0, 0, 0), some (.getfield 162, 3, 0, 0, 114), none, none, some (.if_icmp .eq 10, 114, 0, 0, 0), none, none, some (.aload_n 0, 0, 0, 0, 0), some (.bipush (-2), 0, 0, 0, 0), none, some (.invokevirtual 48, 113, 0, 2, 88), none, none, some (.ireturn, 0, 0, 0, 0), some (.iload_n 2, 0, 0, 0, 0), some (.iconst 1, 0, 0, 0, 0), some (.if_icmp .ne 10, 126, 0, 0, 0), none, none, some (.aload_n 3, 0, 0, 0, 0), some (.getfield 167, 3, 7, 0, 115), none, none, some (.goto 19, 142, 0, 0, 0), none, none, some (.iload_n 2, 0, 0, 0, 0), some (.iconst 2, 0, 0, 0, 0), some (.if_icmp .ne 10, 138, 0, 0, 0), none, none, some (.aload_n 3, 0, 0, 0, 0), some (.getfield 170, 3, 8, 0, 116), none, none, some (.goto 7, 142, 0, 0, 0), none, none, some (.aload_n 3, 0, 0, 0, 0), some (.getfield 173, 3, 6, 0, 117), none, none, some (.ireturn, 0, 0, 0, 0)]
def zC_90 : List (Option zE) := [some (.aload_n 0, 0, 0, 0, 0), some (.iload_n 1, 0, 0, 0, 0), some (.invokevirtual 119, 119, 0, 2, 97), none, none, some (.istore_n 3, 0, 0, 0, 0), some (.iload_n 3, 0, 0, 0, 0), some (.ifCond .eq 9, 16, 0, 0, 0), none, none, some (.aload_n 0, 0, 0, 0, 0), some (.iload_n 3, 0, 0, 0, 0), some (.invokevirtual 48, 113, 0, 2, 88), none, none, some (.ireturn, 0, 0, 0, 0), some (.aload_n 0, 0, 0, 0, 0), some (.getfield 10, 10, 0, 0, 91), none, none, some (.iload_n 2, 0, 0, 0, 0), some (.invokevirtual 176, 10, 0, 2, 103), none, none, some (.aload_n 0, 0, 0, 0, 0), some (.getfield 24, 10, 4, 0, 94), none, none, some (.iload_n 1, 0, 0, 0, 0), some (.aaload, 0, 0, 0, 0), some (.invokevirtual 180, 71, 0, 2, 104), none, none, some (.aload_n 0, 0, 0, 0, 0), some (.getfield 24, 10, 4, 0, 94), none, none, some (.iload_n 1, 0, 0, 0, 0), some (.aaload, 0, 0, 0, 0), some (.getfield 122, 8, 2, 0, 108), none, none, some (.ireturn, 0, 0, 0, 0)]
def zC_91 : List (Option zE) := [some (.iload_n 1, 0, 0, 0, 0), some (.ifCond .ge 9, 10, 0, 0, 0), none, none, some (.sipush 1000, 0, 0, 0, 0), none, none, some (.goto 15, 22, 0, 0, 0), none, none, some (.aload_n 0, 0, 0, 0, 0), some (.getfield 10, 10, 0, 0, 91), none, none, some (.iload_n 2, 0, 0, 0, 0), some (.invokevirtual 176, 10, 0, 2, 103), none, none, some (.iload_n 1, 0, 0, 0, 0), some (.invokevirtual 186, 73, 0, 2, 105), none, none, some (.ireturn, 0, 0, 0, 0)]
def zC_92 : List (Option zE) := [some (.iload_n 1, 0, 0, 0, 0), some (.ifCond .ne 32, 33, 0, 0, 0), none, none, some (.iload_n 2, 0, 0, 0, 0), some (.iconst 0, 0, 0, 0, 0), some (.bipush 99, 0, 0, 0, 0), none, some (.invokestatic 52, 114, 1, 3, 89), none, none, some (.ifCond .eq 22, 33, 0, 0, 0), none, none, some (.aload_n 0, 0, 0, 0, 0), some (.getfield 10, 10, 0, 0, 91), none, none, some (.getfield 189, 2, 10, 0, 118), none, none, some (.istore_n 3, 0, 0, 0, 0), some (.aload_n 0, 0, 0, 0, 0), some (.getfield 10, 10, 0, 0, 91), none, none, some (.iload_n 2, 0, 0, 0, 0), some (.putfield 189, 2, 10, 0, 118), none, none, some (.goto 79, 109, 0, 0, 0), none, none, some (.iload_n 1, 0, 0, 0, 0), some (.iconst 1, 0, 0, 0, 0), some (.if_icmp .ne 32, 67, 0, 0, 0), none, none, some (.iload_n 2, 0, 0, 0, 0), some (.iconst 1, 0, 0, 0, 0), some (.bipush 9, 0, 0, 0, 0), none, some (.invokestatic 52, 114, 1, 3, 89), none, none, some (.ifCond .eq 22, 67, 0, 0, 0), none, none, some (.aload_n 0, 0, 0, 0, 0), some (.getfield 10, 10, 0, 0, 91), none, none, some (.getfield 192, 2, 11, 0, 119), none, none, some (.istore_n 3, 0, 0, 0, 0), some (.aload_n 0, 0, 0, 0, 0), some (.getfield 10, 10, 0, 0, 91), none, none, some (.iload_n 2, 0, 0, 0, 0), some (.putfield 192, 2, 11, 0, 119), none, none, some (.goto 45, 109, 0, 0, 0), none, none, some (.iload_n 1, 0, 0, 0, 0), some (.iconst 2, 0, 0, 0, 0), some (.if_icmp .ne 33, 102, 0, 0, 0), none, none, some (.iload_n 2, 0, 0, 0, 0), some (.iconst 0, 0, 0, 0, 0), some (.sipush 9999, 0, 0, 0, 0), none, none, some (.invokestatic 52, 114, 1, 3, 89), none, none, some (.ifCond .eq 22, 102, 0, 0, 0), none, none, some (.aload_n 0, 0, 0, 0, 0), some (.getfield 10, 10, 0, 0, 91), none, none, some (.getfield 195, 2, 12, 0, 120), none, none, some (.istore_n 3, 0, 0, 0, 0), some (.aload_n 0, 0, 0, 0, 0), some (.getfield 10, 10, 0, 0, 91), none, none, some (.iload_n 2, 0, 0, 0, 0), some (.putfield 195, 2, 12, 0, 120), none, none, some (.goto 10, 109, 0, 0, 0), none, none, some (.aload_n 0, 0, 0, 0, 0), some (.bipush (-6), 0, 0, 0, 0), none, some (.invokevirtual 48, 113, 0, 2, 88), none, none, some (.ireturn, 0, 0, 0, 0), some (.iload_n 3, 0, 0, 0, 0), some (.ireturn, 0, 0, 0, 0)]
def zC_93 : List (Option zE) := [some (.aload_n 0, 0, 0, 0, 0), some (.iload_n 1, 0, 0, 0, 0), some (.invokevirtual 119, 119, 0, 2, 97), none, none, some (.istore_n 2, 0, 0, 0, 0), some (.iload_n 2, 0, 0, 0, 0), some (.ifCond .eq 9, 16, 0, 0, 0), none, none, some (.aload_n 0, 0, 0, 0, 0), some (.iload_n 2, 0, 0, 0, 0), some (.invokevirtual 48, 113, 0, 2, 88), none, none, some (.ireturn, 0, 0, 0, 0), some (.aload_n 0, 0, 0, 0, 0), some (.aload_n 0, 0, 0, 0, 0), some (.getfield 35, 10, 6, 0, 96), none, none, some (.aload_n 0, 0, 0, 0, 0), some (.getfield 24, 10, 4, 0, 94), none, none, some (.iload_n 1, 0, 0, 0, 0), some (.aaload, 0, 0, 0, 0), some (.invokevirtual 198, 48, 0, 2, 106), none, none, some (.putfield 39, 10, 7, 0, 97), none, none, some (.aload_n 0, 0, 0, 0, 0), some (.getfield 39, 10, 7, 0, 97), none, none, some (.iconst (-1), 0, 0, 0, 0), some (.if_icmp .eq 10, 48, 0, 0, 0), none, none, some (.aload_n 0, 0, 0, 0, 0), some (.bipush (-6), 0, 0, 0, 0), none, some (.invokevirtual 48, 113, 0, 2, 88), none, none, some (.ireturn, 0, 0, 0, 0), some (.aload_n 0, 0, 0, 0, 0), some (.getfield 10, 10, 0, 0, 91), none, none, some (.getfield 202, 2, 5, 0, 121), none, none, some (.iconst 5, 0, 0, 0, 0), some (.if_icmp .lt 10, 66, 0, 0, 0), none, none, some (.aload_n 0, 0, 0, 0, 0), some (.bipush (-7), 0, 0, 0, 0), none, some (.invokevirtual 48, 113, 0, 2, 88), none, none, some (.ireturn, 0, 0, 0, 0), some (.aload_n 0, 0, 0, 0, 0), some (.getfield 10, 10, 0, 0, 91), none, none, some (.getfield 205, 2, 2, 0, 122), none, none, some (.aload_n 0, 0, 0, 0, 0), some (.getfield 10, 10, 0, 0, 91), none, none, some (.getfield 202, 2, 5, 0, 121), none, none, some (.aaload, 0, 0, 0, 0), some (.aload_n 0, 0, 0, 0, 0), some (.getfield 35, 10, 6, 0, 96), none, none, some (.getfield 209, 6, 0, 0, 123), none, none, some (.invokevirtual 213, 46, 0, 2, 107), none, none, some (.aload_n 0, 0, 0, 0, 0), some (.getfield 10, 10, 0, 0, 91), none, none, some (.dup, 0, 0, 0, 0), some (.getfield 202, 2, 5, 0, 121), none, none, some (.iconst 1, 0, 0, 0, 0), some (.iadd, 0, 0, 0, 0), some (.putfield 202, 2, 5, 0, 121), none, none, some (.aload_n 0, 0, 0, 0, 0), some (.getfield 10, 10, 0, 0, 91), none, none, some (.getfield 202, 2, 5, 0, 121), none, none, some (.iconst 1, 0, 0, 0, 0), some (.isub, 0, 0, 0, 0), some (.ireturn, 0, 0, 0, 0)]
def zC_94 : List (Option zE) := [some (.aload_n 0, 0, 0, 0, 0), some (.getfield 39, 10, 7, 0, 97), none, none, some (.ireturn, 0, 0, 0, 0)]
def zC_95 : List (Option zE) := [some (.iload_n 1, 0, 0, 0, 0), some (.iconst 0, 0, 0, 0, 0), some (.aload_n 0, 0, 0, 0, 0), some (.getfield 10, 10, 0, 0, 91), none, none, some (.getfield 202, 2, 5, 0, 121), none, none, some (.iconst 1, 0, 0, 0, 0), some (.isub, 0, 0, 0, 0), some (.invokestatic 52, 114, 1, 3, 89), none, none, some (.ifCond .ne 9, 23, 0, 0, 0), none, none, some (.aload_n 0, 0, 0, 0, 0), some (.iconst (-1), 0, 0, 0, 0), some (.invokevirtual 48, 113, 0, 2, 88), none, none, some (.ireturn, 0, 0, 0, 0), some (.aload_n 0, 0, 0, 0, 0), some (.getfield 10, 10, 0, 0, 91), none, none, some (.getfield 205, 2, 2, 0, 122), none, none, some (.iload_n 1, 0, 0, 0, 0), some (.aaload, 0, 0, 0, 0), some (.getfield 219, 5, 1, 0, 124), none, none, some (.istore_n 3, 0, 0, 0, 0), some (.aload_n 0, 0, 0, 0, 0), some (.getfield 10, 10, 0, 0, 91), none, none, some (.getfield 205, 2, 2, 0, 122), none, none, some (.iload_n 1, 0, 0, 0, 0), some (.aaload, 0, 0, 0, 0), some (.iload_n 2, 0, 0, 0, 0), some (.putfield 219, 5, 1, 0, 124), none, none, some (.iload_n 3, 0, 0, 0, 0), some (.iload_n 2, 0, 0, 0, 0), some (.if_icmp .ne 7, 58, 0, 0, 0), none, none, some (.iconst 0, 0, 0, 0, 0), some (.goto 4, 59, 0, 0, 0), none, none, some (.iconst 1, 0, 0, 0, 0), some (.ireturn, 0, 0, 0, 0)]
def zC_96 : List (Option zE) := [some (.iload_n 1, 0, 0, 0, 0), some (.iconst 0, 0, 0, 0, 0), some (.aload_n 0, 0, 0, 0, 0), some (.getfield 10, 10, 0, 0, 91), none, none, some (.getfield 202, 2, 5, 0, 121), none, none, some (.iconst 1, 0, 0, 0, 0), some (.isub, 0, 0, 0, 0), some (.invokestatic 52, 114, 1, 3, 89), none, none, some (.ifCond .ne 5, 19, 0, 0, 0), none, none, some (.iconst (-1), 0, 0, 0, 0), some (.ireturn, 0, 0, 0, 0), some (.aload_n 0, 0, 0, 0, 0), some (.getfield 10, 10, 0, 0, 91), none, none, some (.invokevirtual 223, 11, 0, 1, 108), none, none, some (.aload_n 0, 0, 0, 0, 0), some (.getfield 10, 10, 0, 0, 91), none, none, some (.getfield 205, 2, 2, 0, 122), none, none, some (.iload_n 1, 0, 0, 0, 0), some (.aaload, 0, 0, 0, 0), some (.aload_n 0, 0, 0, 0, 0), some (.getfield 10, 10, 0, 0, 91), none, none, some (.getfield 226, 2, 18, 0, 125), none, none, some (.invokevirtual 229, 44, 0, 2, 109), none, none, some (.ifCond .eq 7, 52, 0, 0, 0), none, none, some (.iconst 1, 0, 0, 0, 0), some (.goto 4, 53, 0, 0, 0), none, none, some (.iconst 0, 0, 0, 0, 0), some (.ireturn, 0, 0, 0, 0)]
def zC_97_0 : List (Option zE) := [some (.iload_n 1, 0, 0, 0, 0), some (.iconst 1, 0, 0, 0, 0), some (.bipush 48, 0, 0, 0, 0), none, some (.invokestatic 52, 114, 1, 3, 89), none, none, some (.ifCond .eq 12, 19, 0, 0, 0), none, none, some (.iload_n 2, 0, 0, 0, 0), some (.iconst 0, 0, 0, 0, 0), some (.iconst 1, 0, 0, 0, 0), some (.invokestatic 52, 114, 1, 3, 89), none, none, some (.ifCond .ne 10, 26, 0, 0, 0), none, none, some (.aload_n 0, 0, 0, 0, 0), some (.bipush (-6), 0, 0, 0, 0), none, some (.invokevirtual 48, 113, 0, 2, 88), none, none, some (.ireturn, 0, 0, 0, 0), some (.iconst 0, 0, 0, 0, 0), some (.istore_n 3, 0, 0, 0, 0), some (.iconst 0, 0, 0, 0, 0), some (.istore 4, 0, 0, 0, 0), none, some (.iconst 0, 0, 0, 0, 0), some (.istore 5, 0, 0, 0, 0), none, some (.iload 5, 0, 0, 0, 0), none, some (.iconst 1, 0, 0, 0, 0), some (.aload_n 0, 0, 0, 0, 0), some (.getfield 10, 10, 0, 0, 91), none, none, some (.getfield 202, 2, 5, 0, 121), none, none, some (.ishl, 0, 0, 0, 0), some (.if_icmp .ge 95, 140, 0, 0, 0), none, none, some (.aload_n 0, 0, 0, 0, 0), some (.getfield 19, 10, 2, 0, 93), none, none, some (.aload_n 0, 0, 0, 0, 0), some (.getfield 10, 10, 0, 0, 91), none, none, some (.invokevirtual 233, 22, 0, 2, 110), none, none, some (.aload_n 0, 0, 0, 0, 0), some (.getfield 19, 10, 2, 0, 93), none, none, some (.iload 5, 0, 0, 0, 0), none, some (.invokevirtual 237, 20, 0, 2, 111), none, none, some (.iconst 0, 0, 0, 0, 0), some (.istore 6, 0, 0, 0, 0), none, some (.iload 6, 0, 0, 0, 0), none, some (.iload_n 1, 0, 0, 0, 0), some (.if_icmp .ge 24, 98, 0, 0, 0), none, none, some (.aload_n 0, 0, 0, 0, 0), some (.getfield 19, 10, 2, 0, 93), none, none, some (.iconst 1, 0, 0, 0, 0), some (.invokevirtual 241, 12, 0, 2, 112), none, none, some (.aload_n 0, 0, 0, 0, 0), some (.getfield 19, 10, 2, 0, 93), none, none, some (.invokevirtual 245, 13, 0, 1, 113), none, none, some (.iinc 6 1, 0, 0, 0, 0), none, none, some (.goto (-24), 71, 0, 0, 0), none, none, some (.aload_n 0, 0, 0, 0, 0), some (.getfield 19, 10, 2, 0, 93), none, none, some (.invokevirtual 248, 21, 0, 1, 114), none, none, some (.aload_n 0, 0, 0, 0, 0), some (.getfield 10, 10, 0, 0, 91), none, none, some (.invokevirtual 248, 21, 0, 1, 114), none, none, some (.isub, 0, 0, 0, 0), some (.istore 6, 0, 0, 0, 0), none, some (.iload 5, 0, 0, 0, 0), none, some (.ifCond .eq 10, 127, 0, 0, 0), none, none, some (.iload 6, 0, 0, 0, 0), none, some (.iload 4, 0, 0, 0, 0), none, some (.if_icmp .ge 10, 134, 0, 0, 0), none, none, some (.iload 6, 0, 0, 0, 0), none, some (.istore 4, 0, 0, 0, 0), none, some (.iload 5, 0, 0, 0, 0), none, some (.istore_n 3, 0, 0, 0, 0), some (.iinc 5 1, 0, 0, 0, 0), none, none, some (.goto (-103), 34, 0, 0, 0), none, none, some (.iload_n 2, 0, 0, 0, 0), some (.ifCond .ne 7, 148, 0, 0, 0), none, none, some (.iload_n 3, 0, 0, 0, 0), some (.goto 5, 150, 0, 0, 0), none, none, some (.iload 4, 0, 0, 0, 0), none]
def zC_97_1 : List (Option zE) := [some (.ireturn, 0, 0, 0, 0)]
def zC_97 : List (Option zE) := zC_97_0 ++ (zC_97_1)
def zC_98 : List (Option zE) := [some (.iload_n 1, 0, 0, 0, 0), some (.iconst 0, 0, 0, 0, 0), some (.iconst 2, 0, 0, 0, 0), some (.invokestatic 52, 114, 1, 3, 89), none, none, some (.ifCond .eq 10, 16, 0, 0, 0), none, none, some (.iload_n 2, 0, 0, 0, 0), some (.invokestatic 44, 115, 1, 1, 87), none, none, some (.ifCond .ne 9, 22, 0, 0, 0), none, none, some (.aload_n 0, 0, 0, 0, 0), some (.iconst (-1), 0, 0, 0, 0), some (.invokevirtual 48, 113, 0, 2, 88), none, none, some (.ireturn, 0, 0, 0, 0), some (.iload_n 3, 0, 0, 0, 0), some (.iconst 0, 0, 0, 0, 0), some (.sipush 200, 0, 0, 0, 0), none, none, some (.invokestatic 52, 114, 1, 3, 89), none, none, some (.ifCond .eq 25, 55, 0, 0, 0), none, none, some (.iload 4, 0, 0, 0, 0), none, some (.iconst 0, 0, 0, 0, 0), some (.bipush 99, 0, 0, 0, 0), none, some (.invokestatic 52, 114, 1, 3, 89), none, none, some (.ifCond .eq 14, 55, 0, 0, 0), none, none, some (.iload 5, 0, 0, 0, 0), none, some (.iconst 0, 0, 0, 0, 0), some (.bipush 99, 0, 0, 0, 0), none, some (.invokestatic 52, 114, 1, 3, 89), none, none, some (.ifCond .ne 10, 62, 0, 0, 0), none, none, some (.aload_n 0, 0, 0, 0, 0), some (.bipush (-6), 0, 0, 0, 0), none, some (.invokevirtual 48, 113, 0, 2, 88), none, none, some (.ireturn, 0, 0, 0, 0), some (.aload_n 0, 0, 0, 0, 0), some (.getfield 10, 10, 0, 0, 91), none, none, some (.getfield 252, 2, 6, 0, 126), none, none, some (.bipush 12, 0, 0, 0, 0), none, some (.if_icmp .lt 10, 81, 0, 0, 0), none, none, some (.aload_n 0, 0, 0, 0, 0), some (.bipush (-7), 0, 0, 0, 0), none, some (.invokevirtual 48, 113, 0, 2, 88), none, none, some (.ireturn, 0, 0, 0, 0), some (.aload_n 0, 0, 0, 0, 0), some (.getfield 10, 10, 0, 0, 91), none, none, some (.getfield 158, 2, 3, 0, 113), none, none, some (.aload_n 0, 0, 0, 0, 0), some (.getfield 10, 10, 0, 0, 91), none, none, some (.getfield 252, 2, 6, 0, 126), none, none, some (.aaload, 0, 0, 0, 0), some (.astore 6, 0, 0, 0, 0), none, some (.aload 6, 0, 0, 0, 0), none, some (.iload_n 1, 0, 0, 0, 0), some (.iload_n 2, 0, 0, 0, 0), some (.iload_n 3, 0, 0, 0, 0), some (.iload 4, 0, 0, 0, 0), none, some (.iload 5, 0, 0, 0, 0), none, some (.invokevirtual 255, 24, 0, 6, 115), none, none, some (.aload_n 0, 0, 0, 0, 0), some (.getfield 10, 10, 0, 0, 91), none, none, some (.dup, 0, 0, 0, 0), some (.getfield 252, 2, 6, 0, 126), none, none, some (.iconst 1, 0, 0, 0, 0), some (.iadd, 0, 0, 0, 0), some (.putfield 252, 2, 6, 0, 126), none, none, some (.aload_n 0, 0, 0, 0, 0), some (.getfield 10, 10, 0, 0, 91), none, none, some (.getfield 252, 2, 6, 0, 126), none, none, some (.iconst 1, 0, 0, 0, 0), some (.isub, 0, 0, 0, 0), some (.ireturn, 0, 0, 0, 0)]
def zC_99 : List (Option zE) := [some (.aload_n 0, 0, 0, 0, 0), some (.iload_n 1, 0, 0, 0, 0), some (.invokevirtual 149, 117, 0, 2, 102), none, none, some (.ifCond .ne 9, 14, 0, 0, 0), none, none, some (.aload_n 0, 0, 0, 0, 0), some (.iconst (-1), 0, 0, 0, 0), some (.invokevirtual 48, 113, 0, 2, 88), none, none, some (.ireturn, 0, 0, 0, 0), some (.iload_n 2, 0, 0, 0, 0), some (.iconst 1, 0, 0, 0, 0), some (.bipush 50, 0, 0, 0, 0), none, some (.invokestatic 52, 114, 1, 3, 89), none, none, some (.ifCond .ne 10, 31, 0, 0, 0), none, none, some (.aload_n 0, 0, 0, 0, 0), some (.bipush (-6), 0, 0, 0, 0), none, some (.invokevirtual 48, 113, 0, 2, 88), none, none, some (.ireturn, 0, 0, 0, 0), some (.aload_n 0, 0, 0, 0, 0), some (.getfield 10, 10, 0, 0, 91), none, none, some (.getfield 158, 2, 3, 0, 113), none, none, some (.iload_n 1, 0, 0, 0, 0), some (.aaload, 0, 0, 0, 0), some (.sipush 300, 0, 0, 0, 0), none, none, some (.aload_n 0, 0, 0, 0, 0), some (.getfield 10, 10, 0, 0, 91), none, none, some (.getfield 158, 2, 3, 0, 113), none, none, some (.iload_n 1, 0, 0, 0, 0), some (.aaload, 0, 0, 0, 0), some (.getfield 259, 3, 2, 0, 127), none, none, some (.iload_n 2, 0, 0, 0, 0), some (.iadd, 0, 0, 0, 0), some (.invokestatic 89, 0, 8, 0, 92), none, none, some (.putfield 259, 3, 2, 0, 127), none, none, some (.aload_n 0, 0, 0, 0, 0), some (.getfield 10, 10, 0, 0, 91), none, none, some (.getfield 158, 2, 3, 0, 113), none, none, some (.iload_n 1, 0, 0, 0, 0), some (.aaload, 0, 0, 0, 0), some (.getfield 259, 3, 2, 0, 127), none, none, some (.ireturn, 0, 0, 0, 0)]
def zC_100 : List (Option zE) := [some (.aload_n 0, 0, 0, 0, 0), some (.iload_n 1, 0, 0, 0, 0), some (.invokevirtual 149, 117, 0, 2, 102), none, none, some (.ifCond .eq 19, 24, 0, 0, 0), none, none, some (.aload_n 0, 0, 0, 0, 0), some (.getfield 10, 10, 0, 0, 91), none, none, some (.getfield 158, 2, 3, 0, 113), none, none, some (.iload_n 1, 0, 0, 0, 0), some (.aaload, 0, 0, 0, 0), some (.iload_n 2, 0, 0, 0, 0), some (.invokevirtual 262, 27, 0, 2, 116), none, none, some (.goto 4, 25, 0, 0, 0), none, none, some (.iconst (-1), 0, 0, 0, 0), some (.ireturn, 0, 0, 0, 0)]
def zC_101 : List (Option zE) := [some (.iload_n 1, 0, 0, 0, 0), some (.invokestatic 44, 115, 1, 1, 87), none, none, some (.ifCond .ne 9, 13, 0, 0, 0), none, none, some (.aload_n 0, 0, 0, 0, 0), some (.iconst (-1), 0, 0, 0, 0), some (.invokevirtual 48, 113, 0, 2, 88), none, none, some (.ireturn, 0, 0, 0, 0), some (.iload_n 2, 0, 0, 0, 0), some (.iconst 1, 0, 0, 0, 0), some (.bipush 60, 0, 0, 0, 0), none, some (.invokestatic 52, 114, 1, 3, 89), none, none, some (.ifCond .eq 13, 33, 0, 0, 0), none, none, some (.iload_n 3, 0, 0, 0, 0), some (.iconst 1, 0, 0, 0, 0), some (.bipush 99, 0, 0, 0, 0), none, some (.invokestatic 52, 114, 1, 3, 89), none, none, some (.ifCond .ne 10, 40, 0, 0, 0), none, none, some (.aload_n 0, 0, 0, 0, 0), some (.bipush (-6), 0, 0, 0, 0), none, some (.invokevirtual 48, 113, 0, 2, 88), none, none, some (.ireturn, 0, 0, 0, 0), some (.iload 4, 0, 0, 0, 0), none, some (.iconst 1, 0, 0, 0, 0), some (.bipush 9, 0, 0, 0, 0), none, some (.invokestatic 52, 114, 1, 3, 89), none, none, some (.ifCond .eq 14, 62, 0, 0, 0), none, none, some (.iload 5, 0, 0, 0, 0), none, some (.iconst 0, 0, 0, 0, 0), some (.bipush 9, 0, 0, 0, 0), none, some (.invokestatic 52, 114, 1, 3, 89), none, none, some (.ifCond .ne 10, 69, 0, 0, 0), none, none, some (.aload_n 0, 0, 0, 0, 0), some (.bipush (-6), 0, 0, 0, 0), none, some (.invokevirtual 48, 113, 0, 2, 88), none, none, some (.ireturn, 0, 0, 0, 0), some (.aload_n 0, 0, 0, 0, 0), some (.getfield 10, 10, 0, 0, 91), none, none, some (.getfield 265, 2, 7, 0, 128), none, none, some (.bipush 6, 0, 0, 0, 0), none, some (.if_icmp .lt 10, 88, 0, 0, 0), none, none, some (.aload_n 0, 0, 0, 0, 0), some (.bipush (-7), 0, 0, 0, 0), none, some (.invokevirtual 48, 113, 0, 2, 88), none, none, some (.ireturn, 0, 0, 0, 0), some (.aload_n 0, 0, 0, 0, 0), some (.getfield 10, 10, 0, 0, 91), none, none, some (.getfield 268, 2, 4, 0, 129), none, none, some (.aload_n 0, 0, 0, 0, 0), some (.getfield 10, 10, 0, 0, 91), none, none, some (.getfield 265, 2, 7, 0, 128), none, none, some (.aaload, 0, 0, 0, 0), some (.iload_n 1, 0, 0, 0, 0), some (.iload_n 2, 0, 0, 0, 0), some (.iload_n 3, 0, 0, 0, 0), some (.iload 4, 0, 0, 0, 0), none, some (.iload 5, 0, 0, 0, 0), none, some (.invokevirtual 272, 1, 0, 6, 117), none, none, some (.aload_n 0, 0, 0, 0, 0), some (.getfield 10, 10, 0, 0, 91), none, none, some (.dup, 0, 0, 0, 0), some (.getfield 265, 2, 7, 0, 128), none, none, some (.iconst 1, 0, 0, 0, 0), some (.iadd, 0, 0, 0, 0), some (.putfield 265, 2, 7, 0, 128), none, none, some (.aload_n 0, 0, 0, 0, 0), some (.getfield 10, 10, 0, 0, 91), none, none, some (.getfield 265, 2, 7, 0, 128), none, none, some (.iconst 1, 0, 0, 0, 0), some (.isub, 0, 0, 0, 0), some (.ireturn, 0, 0, 0, 0)]
def zC_102 : List (Option zE) := [some (.aload_n 0, 0, 0, 0, 0), some (.iload_n 1, 0, 0, 0, 0), some (.invokevirtual 277, 118, 0, 2, 118), none, none, some (.ifCond .eq 15, 20, 0, 0, 0), none, none, some (.iload_n 2, 0, 0, 0, 0), some (.iconst (-1), 0, 0, 0, 0), some (.if_icmp .eq 16, 26, 0, 0, 0), none, none, some (.iload_n 2, 0, 0, 0, 0), some (.invokestatic 44, 115, 1, 1, 87), none, none, some (.ifCond .ne 9, 26, 0, 0, 0), none, none, some (.aload_n 0, 0, 0, 0, 0), some (.iconst (-1), 0, 0, 0, 0), some (.invokevirtual 48, 113, 0, 2, 88), none, none, some (.ireturn, 0, 0, 0, 0), some (.aload_n 0, 0, 0, 0, 0), some (.getfield 10, 10, 0, 0, 91), none, none, some (.getfield 268, 2, 4, 0, 129), none, none, some (.iload_n 1, 0, 0, 0, 0), some (.aaload, 0, 0, 0, 0), some (.getfield 280, 0, 5, 0, 130), none, none, some (.istore_n 3, 0, 0, 0, 0), some (.aload_n 0, 0, 0, 0, 0), some (.getfield 10, 10, 0, 0, 91), none, none, some (.getfield 268, 2, 4, 0, 129), none, none, some (.iload_n 1, 0, 0, 0, 0), some (.aaload, 0, 0, 0, 0), some (.iload_n 2, 0, 0, 0, 0), some (.aload_n 0, 0, 0, 0, 0), some (.getfield 10, 10, 0, 0, 91), none, none, some (.getfield 268, 2, 4, 0, 129), none, none, some (.iload_n 1, 0, 0, 0, 0), some (.aaload, 0, 0, 0, 0), some (.getfield 283, 0, 0, 0, 131), none, none, some (.if_icmp .ne 7, 68, 0, 0, 0), none, none, some (.iconst (-1), 0, 0, 0, 0), some (.goto 4, 69, 0, 0, 0), none, none, some (.iload_n 2, 0, 0, 0, 0), some (.putfield 280, 0, 5, 0, 130), none, none, some (.iload_n 3, 0, 0, 0, 0), some (.ireturn, 0, 0, 0, 0)]
def zC_103 : List (Option zE) := [some (.aload_n 0, 0, 0, 0, 0), some (.iload_n 1, 0, 0, 0, 0), some (.invokevirtual 277, 118, 0, 2, 118), none, none, some (.ifCond .eq 22, 27, 0, 0, 0), none, none, some (.aload_n 0, 0, 0, 0, 0), some (.getfield 10, 10, 0, 0, 91), none, none, some (.aload_n 0, 0, 0, 0, 0), some (.getfield 10, 10, 0, 0, 91), none, none, some (.getfield 268, 2, 4, 0, 129), none, none, some (.iload_n 1, 0, 0, 0, 0), some (.aaload, 0, 0, 0, 0), some (.invokevirtual 286, 17, 0, 2, 119), none, none, some (.goto 4, 28, 0, 0, 0), none, none, some (.iconst (-1), 0, 0, 0, 0), some (.ireturn, 0, 0, 0, 0)]
def zC_104_0 : List (Option zE) := [some (.aload_n 0, 0, 0, 0, 0), some (.iload_n 1, 0, 0, 0, 0), some (.invokevirtual 277, 118, 0, 2, 118), none, none, some (.ifCond .eq 10, 15, 0, 0, 0), none, none, some (.iload_n 2, 0, 0, 0, 0), some (.invokestatic 44, 115, 1, 1, 87), none, none, some (.ifCond .ne 5, 17, 0, 0, 0), none, none, some (.iconst (-1), 0, 0, 0, 0), some (.ireturn, 0, 0, 0, 0), some (.iload_n 3, 0, 0, 0, 0), some (.iconst 1, 0, 0, 0, 0), some (.bipush 96, 0, 0, 0, 0), none, some (.invokestatic 52, 114, 1, 3, 89), none, none, some (.ifCond .ne 10, 34, 0, 0, 0), none, none, some (.aload_n 0, 0, 0, 0, 0), some (.bipush (-6), 0, 0, 0, 0), none, some (.invokevirtual 48, 113, 0, 2, 88), none, none, some (.ireturn, 0, 0, 0, 0), some (.aload_n 0, 0, 0, 0, 0), some (.getfield 10, 10, 0, 0, 91), none, none, some (.getfield 268, 2, 4, 0, 129), none, none, some (.iload_n 1, 0, 0, 0, 0), some (.aaload, 0, 0, 0, 0), some (.astore 4, 0, 0, 0, 0), none, some (.aload 4, 0, 0, 0, 0), none, some (.getfield 283, 0, 0, 0, 131), none, none, some (.iload_n 2, 0, 0, 0, 0), some (.if_icmp .ne 5, 56, 0, 0, 0), none, none, some (.iconst 0, 0, 0, 0, 0), some (.ireturn, 0, 0, 0, 0), some (.aload_n 0, 0, 0, 0, 0), some (.getfield 19, 10, 2, 0, 93), none, none, some (.aload_n 0, 0, 0, 0, 0), some (.getfield 10, 10, 0, 0, 91), none, none, some (.invokevirtual 233, 22, 0, 2, 110), none, none, some (.iconst 1, 0, 0, 0, 0), some (.aload 4, 0, 0, 0, 0), none, some (.getfield 283, 0, 0, 0, 131), none, none, some (.ishl, 0, 0, 0, 0), some (.istore 5, 0, 0, 0, 0), none, some (.iconst 1, 0, 0, 0, 0), some (.istore 6, 0, 0, 0, 0), none, some (.iload 6, 0, 0, 0, 0), none, some (.iload_n 3, 0, 0, 0, 0), some (.if_icmp .gt 70, 152, 0, 0, 0), none, none, some (.aload_n 0, 0, 0, 0, 0), some (.getfield 19, 10, 2, 0, 93), none, none, some (.iconst 1, 0, 0, 0, 0), some (.invokevirtual 241, 12, 0, 2, 112), none, none, some (.aload_n 0, 0, 0, 0, 0), some (.getfield 19, 10, 2, 0, 93), none, none, some (.getfield 290, 2, 17, 0, 132), none, none, some (.aload_n 0, 0, 0, 0, 0), some (.getfield 19, 10, 2, 0, 93), none, none, some (.getfield 56, 2, 0, 0, 98), none, none, some (.aload 4, 0, 0, 0, 0), none, some (.invokevirtual 294, 5, 0, 3, 120), none, none, some (.aload_n 0, 0, 0, 0, 0), some (.getfield 19, 10, 2, 0, 93), none, none, some (.getfield 290, 2, 17, 0, 132), none, none, some (.iload 5, 0, 0, 0, 0), none, some (.invokevirtual 300, 6, 0, 2, 121), none, none, some (.istore 5, 0, 0, 0, 0), none, some (.iload 5, 0, 0, 0, 0), none, some (.iload_n 2, 0, 0, 0, 0), some (.ishr, 0, 0, 0, 0), some (.iconst 1, 0, 0, 0, 0), some (.iand, 0, 0, 0, 0), some (.iconst 1, 0, 0, 0, 0), some (.if_icmp .ne 6, 139, 0, 0, 0), none, none, some (.iload 6, 0, 0, 0, 0), none, some (.ireturn, 0, 0, 0, 0), some (.aload_n 0, 0, 0, 0, 0), some (.getfield 19, 10, 2, 0, 93), none, none, some (.invokevirtual 245, 13, 0, 1, 113), none, none, some (.iinc 6 1, 0, 0, 0, 0), none, none, some (.goto (-70), 79, 0, 0, 0)]
def zC_104_1 : List (Option zE) := [none, none, some (.iconst (-1), 0, 0, 0, 0), some (.ireturn, 0, 0, 0, 0)]
def zC_104 : List (Option zE) := zC_104_0 ++ (zC_104_1)
def zC_105 : List (Option zE) := [some (.aload_n 0, 0, 0, 0, 0), some (.iload_n 1, 0, 0, 0, 0), some (.invokevirtual 277, 118, 0, 2, 118), none, none, some (.ifCond .eq 19, 24, 0, 0, 0), none, none, some (.aload_n 0, 0, 0, 0, 0), some (.getfield 10, 10, 0, 0, 91), none, none, some (.getfield 268, 2, 4, 0, 129), none, none, some (.iload_n 1, 0, 0, 0, 0), some (.aaload, 0, 0, 0, 0), some (.iload_n 2, 0, 0, 0, 0), some (.invokevirtual 303, 2, 0, 2, 122), none, none, some (.goto 4, 25, 0, 0, 0), none, none, some (.iconst (-1), 0, 0, 0, 0), some (.ireturn, 0, 0, 0, 0)]
def zC_106 : List (Option zE) := [some (.iload_n 1, 0, 0, 0, 0), some (.iconst 1, 0, 0, 0, 0), some (.sipush 200, 0, 0, 0, 0), none, none, some (.invokestatic 52, 114, 1, 3, 89), none, none, some (.ifCond .ne 10, 18, 0, 0, 0), none, none, some (.aload_n 0, 0, 0, 0, 0), some (.bipush (-6), 0, 0, 0, 0), none, some (.invokevirtual 48, 113, 0, 2, 88), none, none, some (.ireturn, 0, 0, 0, 0), some (.aload_n 0, 0, 0, 0, 0), some (.getfield 10, 10, 0, 0, 91), none, none, some (.getfield 304, 2, 13, 0, 133), none, none, some (.iload_n 1, 0, 0, 0, 0), some (.iadd, 0, 0, 0, 0), some (.sipush 20000, 0, 0, 0, 0), none, none, some (.if_icmp .le 10, 40, 0, 0, 0), none, none, some (.aload_n 0, 0, 0, 0, 0), some (.bipush (-7), 0, 0, 0, 0), none, some (.invokevirtual 48, 113, 0, 2, 88), none, none, some (.ireturn, 0, 0, 0, 0), some (.iconst 0, 0, 0, 0, 0), some (.istore_n 2, 0, 0, 0, 0), some (.iload_n 2, 0, 0, 0, 0), some (.iload_n 1, 0, 0, 0, 0), some (.if_icmp .ge 24, 68, 0, 0, 0), none, none, some (.aload_n 0, 0, 0, 0, 0), some (.getfield 10, 10, 0, 0, 91), none, none, some (.iconst 0, 0, 0, 0, 0), some (.invokevirtual 241, 12, 0, 2, 112), none, none, some (.aload_n 0, 0, 0, 0, 0), some (.getfield 10, 10, 0, 0, 91), none, none, some (.invokevirtual 245, 13, 0, 1, 113), none, none, some (.iinc 2 1, 0, 0, 0, 0), none, none, some (.goto (-23), 42, 0, 0, 0), none, none, some (.aload_n 0, 0, 0, 0, 0), some (.getfield 10, 10, 0, 0, 91), none, none, some (.getfield 304, 2, 13, 0, 133), none, none, some (.ireturn, 0, 0, 0, 0)]
def zC_107 : List (Option zE) := [some (.iload_n 1, 0, 0, 0, 0), some (.invokestatic 44, 115, 1, 1, 87), none, none, some (.ifCond .eq 14, 18, 0, 0, 0), none, none, some (.iload_n 2, 0, 0, 0, 0), some (.iconst 0, 0, 0, 0, 0), some (.sipush 200, 0, 0, 0, 0), none, none, some (.invokestatic 52, 114, 1, 3, 89), none, none, some (.ifCond .ne 7, 22, 0, 0, 0), none, none, some (.sipush 1000, 0, 0, 0, 0), none, none, some (.ireturn, 0, 0, 0, 0), some (.aload_n 0, 0, 0, 0, 0), some (.getfield 19, 10, 2, 0, 93), none, none, some (.aload_n 0, 0, 0, 0, 0), some (.getfield 10, 10, 0, 0, 91), none, none, some (.invokevirtual 233, 22, 0, 2, 110), none, none, some (.iconst 0, 0, 0, 0, 0), some (.istore_n 3, 0, 0, 0, 0), some (.iload_n 3, 0, 0, 0, 0), some (.iload_n 2, 0, 0, 0, 0), some (.if_icmp .ge 24, 61, 0, 0, 0), none, none, some (.aload_n 0, 0, 0, 0, 0), some (.getfield 19, 10, 2, 0, 93), none, none, some (.iconst 1, 0, 0, 0, 0), some (.invokevirtual 241, 12, 0, 2, 112), none, none, some (.aload_n 0, 0, 0, 0, 0), some (.getfield 19, 10, 2, 0, 93), none, none, some (.invokevirtual 245, 13, 0, 1, 113), none, none, some (.iinc 3 1, 0, 0, 0, 0), none, none, some (.goto (-23), 35, 0, 0, 0), none, none, some (.aload_n 0, 0, 0, 0, 0), some (.getfield 19, 10, 2, 0, 93), none, none, some (.getfield 56, 2, 0, 0, 98), none, none, some (.getfield 65, 4, 1, 0, 100), none, none, some (.iload_n 1, 0, 0, 0, 0), some (.iaload, 0, 0, 0, 0), some (.ireturn, 0, 0, 0, 0)]
def zC_108 : List (Option zE) := [some (.aload_n 0, 0, 0, 0, 0), some (.getfield 16, 10, 1, 0, 92), none, none, some (.aload_n 0, 0, 0, 0, 0), some (.getfield 10, 10, 0, 0, 91), none, none, some (.invokevirtual 233, 22, 0, 2, 110), none, none, some (.aload_n 0, 0, 0, 0, 0), some (.iconst 1, 0, 0, 0, 0), some (.putfield 307, 10, 3, 0, 134), none, none, some (.aload_n 0, 0, 0, 0, 0), some (.getfield 10, 10, 0, 0, 91), none, none, some (.getfield 304, 2, 13, 0, 133), none, none, some (.ireturn, 0, 0, 0, 0)]
def zC_109 : List (Option zE) := [some (.aload_n 0, 0, 0, 0, 0), some (.getfield 307, 10, 3, 0, 134), none, none, some (.ifCond .ne 10, 14, 0, 0, 0), none, none, some (.aload_n 0, 0, 0, 0, 0), some (.bipush (-6), 0, 0, 0, 0), none, some (.invokevirtual 48, 113, 0, 2, 88), none, none, some (.ireturn, 0, 0, 0, 0), some (.aload_n 0, 0, 0, 0, 0), some (.getfield 10, 10, 0, 0, 91), none, none, some (.aload_n 0, 0, 0, 0, 0), some (.getfield 16, 10, 1, 0, 92), none, none, some (.invokevirtual 233, 22, 0, 2, 110), none, none, some (.iconst 0, 0, 0, 0, 0), some (.istore_n 1, 0, 0, 0, 0), some (.iload_n 1, 0, 0, 0, 0), some (.bipush 8, 0, 0, 0, 0), none, some (.if_icmp .ge 48, 78, 0, 0, 0), none, none, some (.aload_n 0, 0, 0, 0, 0), some (.getfield 24, 10, 4, 0, 94), none, none, some (.iload_n 1, 0, 0, 0, 0), some (.aaload, 0, 0, 0, 0), some (.getfield 146, 8, 0, 0, 110), none, none, some (.iconst 2, 0, 0, 0, 0), some (.if_icmp .ne 29, 72, 0, 0, 0), none, none, some (.aload_n 0, 0, 0, 0, 0), some (.aload_n 0, 0, 0, 0, 0), some (.getfield 24, 10, 4, 0, 94), none, none, some (.iload_n 1, 0, 0, 0, 0), some (.aaload, 0, 0, 0, 0), some (.getfield 152, 8, 3, 0, 111), none, none, some (.invokevirtual 149, 117, 0, 2, 102), none, none, some (.ifCond .ne 13, 72, 0, 0, 0), none, none, some (.aload_n 0, 0, 0, 0, 0), some (.getfield 24, 10, 4, 0, 94), none, none, some (.iload_n 1, 0, 0, 0, 0), some (.aaload, 0, 0, 0, 0), some (.iconst 0, 0, 0, 0, 0), some (.putfield 146, 8, 0, 0, 110), none, none, some (.iinc 1 1, 0, 0, 0, 0), none, none, some (.goto (-48), 27, 0, 0, 0), none, none, some (.aload_n 0, 0, 0, 0, 0), some (.getfield 10, 10, 0, 0, 91), none, none, some (.getfield 304, 2, 13, 0, 133), none, none, some (.ireturn, 0, 0, 0, 0)]
def zC_110 : List (Option zE) := [some (.iload_n 1, 0, 0, 0, 0), some (.invokestatic 44, 115, 1, 1, 87), none, none, some (.ifCond .ne 7, 11, 0, 0, 0), none, none, some (.ldc_w 310, 0, 0, 1000000, 0), none, none, some (.ireturn, 0, 0, 0, 0), some (.iload_n 2, 0, 0, 0, 0), some (.tableswitch 100 0 4 #[36, 49, 62, 75, 88], 0, 0, 0, 0), none, none, none, none, none, none, none, none, none, none, none, none, none, none, none, none, none, none, none, none, none, none, none, none, none, none, none, none, none, none, none, none, none, none, none, some (.aload_n 0, 0, 0, 0, 0), some (.getfield 10, 10, 0, 0, 91), none, none, some (.getfield 56, 2, 0, 0, 98), none, none, some (.getfield 60, 4, 0, 0, 99), none, none, some (.iload_n 1, 0, 0, 0, 0), some (.iaload, 0, 0, 0, 0), some (.ireturn, 0, 0, 0, 0), some (.aload_n 0, 0, 0, 0, 0), some (.getfield 10, 10, 0, 0, 91), none, none, some (.getfield 56, 2, 0, 0, 98), none, none, some (.getfield 65, 4, 1, 0, 100), none, none, some (.iload_n 1, 0, 0, 0, 0), some (.iaload, 0, 0, 0, 0), some (.ireturn, 0, 0, 0, 0), some (.aload_n 0, 0, 0, 0, 0), some (.getfield 10, 10, 0, 0, 91), none, none, some (.getfield 56, 2, 0, 0, 98), none, none, some (.getfield 311, 4, 2, 0, 135), none, none, some (.iload_n 1, 0, 0, 0, 0), some (.iaload, 0, 0, 0, 0), some (.ireturn, 0, 0, 0, 0), some (.aload_n 0, 0, 0, 0, 0), some (.getfield 10, 10, 0, 0, 91), none, none, some (.getfield 56, 2, 0, 0, 98), none, none, some (.getfield 314, 4, 3, 0, 136), none, none, some (.iload_n 1, 0, 0, 0, 0), some (.iaload, 0, 0, 0, 0), some (.ireturn, 0, 0, 0, 0), some (.aload_n 0, 0, 0, 0, 0), some (.getfield 10, 10, 0, 0, 91), none, none, some (.getfield 94, 2, 1, 0, 105), none, none, some (.iload_n 1, 0, 0, 0, 0), some (.invokevirtual 98, 62, 0, 2, 93), none, none, some (.ireturn, 0, 0, 0, 0), some (.ldc_w 310, 0, 0, 1000000, 0), none, none, some (.ireturn, 0, 0, 0, 0)]
def zC_111 : List (Option zE) := [some (.iload_n 1, 0, 0, 0, 0), some (.iload_n 2, 0, 0, 0, 0), some (.invokestatic 71, 30, 1, 2, 90), none, none, some (.istore 4, 0, 0, 0, 0), none, some (.iload 4, 0, 0, 0, 0), none, some (.iconst (-1), 0, 0, 0, 0), some (.if_icmp .ne 5, 15, 0, 0, 0), none, none, some (.iconst (-1), 0, 0, 0, 0), some (.ireturn, 0, 0, 0, 0), some (.iload_n 3, 0, 0, 0, 0), some (.tableswitch 86 0 2 #[28, 50, 72], 0, 0, 0, 0), none, none, none, none, none, none, none, none, none, none, none, none, none, none, none, none, none, none, none, none, none, none, none, none, none, none, none, some (.aload_n 0, 0, 0, 0, 0), some (.getfield 10, 10, 0, 0, 91), none, none, some (.getfield 56, 2, 0, 0, 98), none, none, some (.getfield 75, 4, 5, 0, 102), none, none, some (.iload 4, 0, 0, 0, 0), none, some (.baload, 0, 0, 0, 0), some (.ifCond .eq 7, 64, 0, 0, 0), none, none, some (.iconst 1, 0, 0, 0, 0), some (.goto 4, 65, 0, 0, 0), none, none, some (.iconst 0, 0, 0, 0, 0), some (.ireturn, 0, 0, 0, 0), some (.aload_n 0, 0, 0, 0, 0), some (.getfield 10, 10, 0, 0, 91), none, none, some (.getfield 56, 2, 0, 0, 98), none, none, some (.getfield 83, 4, 6, 0, 103), none, none, some (.iload 4, 0, 0, 0, 0), none, some (.baload, 0, 0, 0, 0), some (.ifCond .eq 7, 86, 0, 0, 0), none, none, some (.iconst 1, 0, 0, 0, 0), some (.goto 4, 87, 0, 0, 0), none, none, some (.iconst 0, 0, 0, 0, 0), some (.ireturn, 0, 0, 0, 0), some (.aload_n 0, 0, 0, 0, 0), some (.getfield 10, 10, 0, 0, 91), none, none, some (.getfield 56, 2, 0, 0, 98), none, none, some (.getfield 86, 4, 4, 0, 104), none, none, some (.iload 4, 0, 0, 0, 0), none, some (.iaload, 0, 0, 0, 0), some (.ireturn, 0, 0, 0, 0), some (.iconst (-1), 0, 0, 0, 0), some (.ireturn, 0, 0, 0, 0)]
def zC_112_0 : List (Option zE) := [some (.iload_n 1, 0, 0, 0, 0), some (.tableswitch 196 0 18 #[91, 102, 113, 121, 129, 137, 145, 153, 161, 169, 177, 196, 196, 196, 196, 196, 196, 196, 188], 0, 0, 0, 0), none, none, none, none, none, none, none, none, none, none, none, none, none, none, none, none, none, none, none, none, none, none, none, none, none, none, none, none, none, none, none, none, none, none, none, none, none, none, none, none, none, none, none, none, none, none, none, none, none, none, none, none, none, none, none, none, none, none, none, none, none, none, none, none, none, none, none, none, none, none, none, none, none, none, none, none, none, none, none, none, none, none, none, none, none, none, none, none, none, none, some (.aload_n 0, 0, 0, 0, 0), some (.getfield 10, 10, 0, 0, 91), none, none, some (.getfield 94, 2, 1, 0, 105), none, none, some (.getfield 103, 7, 0, 0, 106), none, none, some (.ireturn, 0, 0, 0, 0), some (.aload_n 0, 0, 0, 0, 0), some (.getfield 10, 10, 0, 0, 91), none, none, some (.getfield 94, 2, 1, 0, 105), none, none, some (.invokevirtual 317, 63, 0, 1, 123), none, none, some (.ireturn, 0, 0, 0, 0), some (.aload_n 0, 0, 0, 0, 0), some (.getfield 10, 10, 0, 0, 91), none, none, some (.getfield 202, 2, 5, 0, 121), none, none, some (.ireturn, 0, 0, 0, 0), some (.aload_n 0, 0, 0, 0, 0), some (.getfield 10, 10, 0, 0, 91), none, none, some (.invokevirtual 320, 19, 0, 1, 124), none, none, some (.ireturn, 0, 0, 0, 0), some (.aload_n 0, 0, 0, 0, 0), some (.getfield 10, 10, 0, 0, 91), none, none, some (.getfield 252, 2, 6, 0, 126), none, none, some (.ireturn, 0, 0, 0, 0), some (.aload_n 0, 0, 0, 0, 0), some (.getfield 10, 10, 0, 0, 91), none, none, some (.getfield 265, 2, 7, 0, 128), none, none, some (.ireturn, 0, 0, 0, 0), some (.aload_n 0, 0, 0, 0, 0), some (.getfield 10, 10, 0, 0, 91), none, none]
def zC_112_1 : List (Option zE) := [some (.invokevirtual 323, 18, 0, 1, 125), none, none, some (.ireturn, 0, 0, 0, 0), some (.aload_n 0, 0, 0, 0, 0), some (.getfield 10, 10, 0, 0, 91), none, none, some (.getfield 304, 2, 13, 0, 133), none, none, some (.ireturn, 0, 0, 0, 0), some (.aload_n 0, 0, 0, 0, 0), some (.getfield 10, 10, 0, 0, 91), none, none, some (.getfield 326, 2, 14, 0, 137), none, none, some (.ireturn, 0, 0, 0, 0), some (.aload_n 0, 0, 0, 0, 0), some (.getfield 10, 10, 0, 0, 91), none, none, some (.getfield 329, 2, 15, 0, 138), none, none, some (.ireturn, 0, 0, 0, 0), some (.aload_n 0, 0, 0, 0, 0), some (.getfield 10, 10, 0, 0, 91), none, none, some (.getfield 56, 2, 0, 0, 98), none, none, some (.invokevirtual 332, 34, 0, 1, 126), none, none, some (.ireturn, 0, 0, 0, 0), some (.aload_n 0, 0, 0, 0, 0), some (.getfield 10, 10, 0, 0, 91), none, none, some (.getfield 68, 2, 16, 0, 101), none, none, some (.ireturn, 0, 0, 0, 0), some (.iload_n 1, 0, 0, 0, 0), some (.bipush 11, 0, 0, 0, 0), none, some (.bipush 17, 0, 0, 0, 0), none, some (.invokestatic 52, 114, 1, 3, 89), none, none, some (.ifCond .eq 15, 220, 0, 0, 0), none, none, some (.aload_n 0, 0, 0, 0, 0), some (.getfield 28, 10, 5, 0, 95), none, none, some (.iload_n 1, 0, 0, 0, 0), some (.bipush 10, 0, 0, 0, 0), none, some (.isub, 0, 0, 0, 0), some (.iaload, 0, 0, 0, 0), some (.goto 6, 223, 0, 0, 0), none, none, some (.ldc_w 335, 0, 0, -1000001, 1), none, none, some (.ireturn, 0, 0, 0, 0)]
def zC_112 : List (Option zE) := zC_112_0 ++ (zC_112_1)
def zC_113 : List (Option zE) := [some (.iload_n 1, 0, 0, 0, 0), some (.ineg, 0, 0, 0, 0), some (.iconst 1, 0, 0, 0, 0), some (.bipush 7, 0, 0, 0, 0), none, some (.invokestatic 52, 114, 1, 3, 89), none, none, some (.ifCond .eq 14, 22, 0, 0, 0), none, none, some (.aload_n 0, 0, 0, 0, 0), some (.getfield 28, 10, 5, 0, 95), none, none, some (.iload_n 1, 0, 0, 0, 0), some (.ineg, 0, 0, 0, 0), some (.dup2, 0, 0, 0, 0), some (.iaload, 0, 0, 0, 0), some (.iconst 1, 0, 0, 0, 0), some (.iadd, 0, 0, 0, 0), some (.iastore, 0, 0, 0, 0), some (.iload_n 1, 0, 0, 0, 0), some (.ireturn, 0, 0, 0, 0)]
def zC_114 : List (Option zE) := [some (.iload_n 0, 0, 0, 0, 0), some (.iload_n 1, 0, 0, 0, 0), some (.if_icmp .lt 12, 14, 0, 0, 0), none, none, some (.iload_n 0, 0, 0, 0, 0), some (.iload_n 2, 0, 0, 0, 0), some (.if_icmp .gt 7, 14, 0, 0, 0), none, none, some (.iconst 1, 0, 0, 0, 0), some (.goto 4, 15, 0, 0, 0), none, none, some (.iconst 0, 0, 0, 0, 0), some (.ireturn, 0, 0, 0, 0)]
def zC_115 : List (Option zE) := [some (.iload_n 0, 0, 0, 0, 0), some (.ifCond .lt 13, 14, 0, 0, 0), none, none, some (.iload_n 0, 0, 0, 0, 0), some (.bipush 25, 0, 0, 0, 0), none, some (.if_icmp .ge 7, 14, 0, 0, 0), none, none, some (.iconst 1, 0, 0, 0, 0), some (.goto 4, 15, 0, 0, 0), none, none, some (.iconst 0, 0, 0, 0, 0), some (.ireturn, 0, 0, 0, 0)]
def zC_116 : List (Option zE) := [some (.iload_n 0, 0, 0, 0, 0), some (.ifCond .lt 13, 14, 0, 0, 0), none, none, some (.iload_n 0, 0, 0, 0, 0), some (.bipush 8, 0, 0, 0, 0), none, some (.if_icmp .ge 7, 14, 0, 0, 0), none, none, some (.iconst 1, 0, 0, 0, 0), some (.goto 4, 15, 0, 0, 0), none, none, some (.iconst 0, 0, 0, 0, 0), some (.ireturn, 0, 0, 0, 0)]
def zC_117 : List (Option zE) := [some (.iload_n 1, 0, 0, 0, 0), some (.ifCond .lt 18, 19, 0, 0, 0), none, none, some (.iload_n 1, 0, 0, 0, 0), some (.aload_n 0, 0, 0, 0, 0), some (.getfield 10, 10, 0, 0, 91), none, none, some (.getfield 252, 2, 6, 0, 126), none, none, some (.if_icmp .ge 7, 19, 0, 0, 0), none, none, some (.iconst 1, 0, 0, 0, 0), some (.goto 4, 20, 0, 0, 0), none, none, some (.iconst 0, 0, 0, 0, 0), some (.ireturn, 0, 0, 0, 0)]
def zC_118 : List (Option zE) := [some (.iload_n 1, 0, 0, 0, 0), some (.ifCond .lt 18, 19, 0, 0, 0), none, none, some (.iload_n 1, 0, 0, 0, 0), some (.aload_n 0, 0, 0, 0, 0), some (.getfield 10, 10, 0, 0, 91), none, none, some (.getfield 265, 2, 7, 0, 128), none, none, some (.if_icmp .ge 7, 19, 0, 0, 0), none, none, some (.iconst 1, 0, 0, 0, 0), some (.goto 4, 20, 0, 0, 0), none, none, some (.iconst 0, 0, 0, 0, 0), some (.ireturn, 0, 0, 0, 0)]
def zC_119 : List (Option zE) := [some (.iload_n 1, 0, 0, 0, 0), some (.invokestatic 112, 116, 1, 1, 95), none, none, some (.ifCond .ne 5, 9, 0, 0, 0), none, none, some (.iconst (-1), 0, 0, 0, 0), some (.ireturn, 0, 0, 0, 0), some (.aload_n 0, 0, 0, 0, 0), some (.getfield 24, 10, 4, 0, 94), none, none, some (.iload_n 1, 0, 0, 0, 0), some (.aaload, 0, 0, 0, 0), some (.getfield 146, 8, 0, 0, 110), none, none, some (.iconst 2, 0, 0, 0, 0), some (.if_icmp .ne 6, 25, 0, 0, 0), none, none, some (.bipush (-2), 0, 0, 0, 0), none, some (.ireturn, 0, 0, 0, 0), some (.aload_n 0, 0, 0, 0, 0), some (.getfield 24, 10, 4, 0, 94), none, none, some (.iload_n 1, 0, 0, 0, 0), some (.aaload, 0, 0, 0, 0), some (.getfield 146, 8, 0, 0, 110), none, none, some (.ifCond .ne 8, 42, 0, 0, 0), none, none, some (.bipush (-3), 0, 0, 0, 0), none, some (.goto 4, 43, 0, 0, 0), none, none, some (.iconst 0, 0, 0, 0, 0), some (.ireturn, 0, 0, 0, 0)]
def zC_120 : List (Option zE) := [some (.aload_n 0, 0, 0, 0, 0), some (.iload_n 1, 0, 0, 0, 0), some (.invokevirtual 119, 119, 0, 2, 97), none, none, some (.istore_n 3, 0, 0, 0, 0), some (.aload_n 0, 0, 0, 0, 0), some (.iload_n 2, 0, 0, 0, 0), some (.invokevirtual 119, 119, 0, 2, 97), none, none, some (.istore 4, 0, 0, 0, 0), none, some (.iload_n 3, 0, 0, 0, 0), some (.iconst (-1), 0, 0, 0, 0), some (.if_icmp .eq 9, 24, 0, 0, 0), none, none, some (.iload 4, 0, 0, 0, 0), none, some (.iconst (-1), 0, 0, 0, 0), some (.if_icmp .ne 5, 26, 0, 0, 0), none, none, some (.iconst (-1), 0, 0, 0, 0), some (.ireturn, 0, 0, 0, 0), some (.iload_n 3, 0, 0, 0, 0), some (.bipush (-2), 0, 0, 0, 0), none, some (.if_icmp .eq 10, 39, 0, 0, 0), none, none, some (.iload 4, 0, 0, 0, 0), none, some (.bipush (-2), 0, 0, 0, 0), none, some (.if_icmp .ne 6, 42, 0, 0, 0), none, none, some (.bipush (-2), 0, 0, 0, 0), none, some (.ireturn, 0, 0, 0, 0), some (.iload_n 3, 0, 0, 0, 0), some (.bipush (-3), 0, 0, 0, 0), none, some (.if_icmp .eq 10, 55, 0, 0, 0), none, none, some (.iload 4, 0, 0, 0, 0), none, some (.bipush (-3), 0, 0, 0, 0), none, some (.if_icmp .ne 6, 58, 0, 0, 0), none, none, some (.bipush (-3), 0, 0, 0, 0), none, some (.ireturn, 0, 0, 0, 0), some (.aload_n 0, 0, 0, 0, 0), some (.getfield 24, 10, 4, 0, 94), none, none, some (.iload_n 1, 0, 0, 0, 0), some (.aaload, 0, 0, 0, 0), some (.getfield 155, 8, 1, 0, 112), none, none, some (.aload_n 0, 0, 0, 0, 0), some (.getfield 24, 10, 4, 0, 94), none, none, some (.iload_n 2, 0, 0, 0, 0), some (.aaload, 0, 0, 0, 0), some (.getfield 155, 8, 1, 0, 112), none, none, some (.if_icmp .ne 7, 83, 0, 0, 0), none, none, some (.iconst 0, 0, 0, 0, 0), some (.goto 5, 85, 0, 0, 0), none, none, some (.bipush (-2), 0, 0, 0, 0), none, some (.ireturn, 0, 0, 0, 0)]
def zC_121 : List (Option zE) := [some (.iload_n 1, 0, 0, 0, 0), some (.ifCond .lt 16, 17, 0, 0, 0), none, none, some (.iload_n 1, 0, 0, 0, 0), some (.aload_n 0, 0, 0, 0, 0), some (.arraylength, 0, 0, 0, 0), some (.if_icmp .ge 10, 17, 0, 0, 0), none, none, some (.aload_n 0, 0, 0, 0, 0), some (.iload_n 1, 0, 0, 0, 0), some (.baload, 0, 0, 0, 0), some (.iload_n 2, 0, 0, 0, 0), some (.if_icmp .ne 5, 19, 0, 0, 0), none, none, some (.iconst 0, 0, 0, 0, 0), some (.ireturn, 0, 0, 0, 0), some (.aload_n 0, 0, 0, 0, 0), some (.iload_n 1, 0, 0, 0, 0), some (.iload_n 2, 0, 0, 0, 0), some (.bastore, 0, 0, 0, 0), some (.iconst 1, 0, 0, 0, 0), some (.ireturn, 0, 0, 0, 0)]
def zC_122_0 : List (Option zE) := [some (.aload_n 0, 0, 0, 0, 0), some (.invokespecial 1, 0, 5, 0, 127), none, none, some (.aload_n 0, 0, 0, 0, 0), some (.sipush 646, 0, 0, 0, 0), none, none, some (.newarray .int, 12, 0, 0, 0), none, some (.putfield 7, 11, 0, 0, 139), none, none, some (.aload_n 0, 0, 0, 0, 0), some (.sipush 646, 0, 0, 0, 0), none, none, some (.newarray .int, 12, 0, 0, 0), none, some (.putfield 13, 11, 1, 0, 140), none, none, some (.aload_n 0, 0, 0, 0, 0), some (.sipush 646, 0, 0, 0, 0), none, none, some (.newarray .int, 12, 0, 0, 0), none, some (.putfield 16, 11, 2, 0, 141), none, none, some (.aload_n 0, 0, 0, 0, 0), some (.bipush 8, 0, 0, 0, 0), none, some (.newarray .int, 12, 0, 0, 0), none, some (.putfield 19, 11, 4, 0, 142), none, none, some (.aload_n 0, 0, 0, 0, 0), some (.bipush 8, 0, 0, 0, 0), none, some (.newarray .int, 12, 0, 0, 0), none, some (.putfield 22, 11, 5, 0, 143), none, none, some (.aload_n 0, 0, 0, 0, 0), some (.bipush 8, 0, 0, 0, 0), none, some (.newarray .int, 12, 0, 0, 0), none, some (.putfield 25, 11, 6, 0, 144), none, none, some (.aload_n 0, 0, 0, 0, 0), some (.bipush 8, 0, 0, 0, 0), none, some (.newarray .int, 12, 0, 0, 0), none, some (.putfield 28, 11, 7, 0, 145), none, none, some (.aload_n 0, 0, 0, 0, 0), some (.sipush 768, 0, 0, 0, 0), none, none, some (.newarray .long, 13, 0, 0, 0), none, some (.putfield 31, 11, 8, 0, 146), none, none, some (.aload_n 0, 0, 0, 0, 0), some (.bipush 96, 0, 0, 0, 0), none, some (.newarray .long, 13, 0, 0, 0), none, some (.putfield 35, 11, 9, 0, 147), none, none, some (.aload_n 0, 0, 0, 0, 0), some (.bipush 6, 0, 0, 0, 0), none, some (.newarray .int, 12, 0, 0, 0), none, some (.putfield 38, 11, 10, 0, 148), none, none, some (.aload_n 0, 0, 0, 0, 0), some (.bipush 6, 0, 0, 0, 0), none, some (.newarray .int, 12, 0, 0, 0), none, some (.putfield 41, 11, 11, 0, 149), none, none, some (.aload_n 0, 0, 0, 0, 0), some (.sipush 720, 0, 0, 0, 0), none, none, some (.newarray .int, 12, 0, 0, 0), none, some (.putfield 44, 11, 12, 0, 150), none, none, some (.aload_n 0, 0, 0, 0, 0), some (.sipush 300, 0, 0, 0, 0), none, none, some (.newarray .int, 12, 0, 0, 0), none, some (.putfield 47, 11, 13, 0, 151), none, none, some (.aload_n 0, 0, 0, 0, 0), some (.sipush 300, 0, 0, 0, 0), none, none, some (.newarray .int, 12, 0, 0, 0), none, some (.putfield 50, 11, 14, 0, 152), none, none, some (.aload_n 0, 0, 0, 0, 0), some (.sipush 300, 0, 0, 0, 0), none, none, some (.newarray .int, 12, 0, 0, 0), none, some (.putfield 53, 11, 15, 0, 153), none, none, some (.aload_n 0, 0, 0, 0, 0), some (.iconst (-1), 0, 0, 0, 0), some (.putfield 56, 11, 16, 0, 154), none, none, some (.aload_n 0, 0, 0, 0, 0), some (.bipush 8, 0, 0, 0, 0), none, some (.newarray .int, 12, 0, 0, 0), none, some (.putfield 60, 11, 17, 0, 155), none, none, some (.aload_n 0, 0, 0, 0, 0), some (.bipush 120, 0, 0, 0, 0), none, some (.newarray .int, 12, 0, 0, 0), none]
def zC_122_1 : List (Option zE) := [some (.putfield 63, 11, 18, 0, 156), none, none, some (.aload_n 0, 0, 0, 0, 0), some (.bipush 60, 0, 0, 0, 0), none, some (.newarray .int, 12, 0, 0, 0), none, some (.putfield 66, 11, 26, 0, 157), none, none, some (.aload_n 0, 0, 0, 0, 0), some (.bipush 25, 0, 0, 0, 0), none, some (.newarray .int, 12, 0, 0, 0), none, some (.putfield 69, 11, 27, 0, 158), none, none, some (.aload_n 0, 0, 0, 0, 0), some (.bipush 25, 0, 0, 0, 0), none, some (.newarray .int, 12, 0, 0, 0), none, some (.putfield 72, 11, 28, 0, 159), none, none, some (.aload_n 0, 0, 0, 0, 0), some (.bipush 25, 0, 0, 0, 0), none, some (.newarray .int, 12, 0, 0, 0), none, some (.putfield 75, 11, 29, 0, 160), none, none, some (.aload_n 0, 0, 0, 0, 0), some (.bipush 50, 0, 0, 0, 0), none, some (.newarray .int, 12, 0, 0, 0), none, some (.putfield 78, 11, 30, 0, 161), none, none, some (.aload_n 0, 0, 0, 0, 0), some (.iconst 5, 0, 0, 0, 0), some (.newarray .int, 12, 0, 0, 0), none, some (.putfield 81, 11, 34, 0, 162), none, none, some (.aload_n 0, 0, 0, 0, 0), some (.iconst 5, 0, 0, 0, 0), some (.newarray .int, 12, 0, 0, 0), none, some (.putfield 84, 11, 35, 0, 163), none, none, some (.aload_n 0, 0, 0, 0, 0), some (.sipush 600, 0, 0, 0, 0), none, none, some (.newarray .int, 12, 0, 0, 0), none, some (.putfield 87, 11, 36, 0, 164), none, none, some (.aload_n 0, 0, 0, 0, 0), some (.sipush 250, 0, 0, 0, 0), none, none, some (.newarray .int, 12, 0, 0, 0), none, some (.putfield 90, 11, 37, 0, 165), none, none, some (.aload_n 0, 0, 0, 0, 0), some (.sipush 250, 0, 0, 0, 0), none, none, some (.newarray .int, 12, 0, 0, 0), none, some (.putfield 93, 11, 38, 0, 166), none, none, some (.aload_n 0, 0, 0, 0, 0), some (.sipush 250, 0, 0, 0, 0), none, none, some (.newarray .int, 12, 0, 0, 0), none, some (.putfield 96, 11, 39, 0, 167), none, none, some (.iconst 0, 0, 0, 0, 0), some (.istore_n 1, 0, 0, 0, 0), some (.iload_n 1, 0, 0, 0, 0), some (.bipush 25, 0, 0, 0, 0), none, some (.if_icmp .ge 31, 279, 0, 0, 0), none, none, some (.aload_n 0, 0, 0, 0, 0), some (.getfield 7, 11, 0, 0, 139), none, none, some (.iconst 0, 0, 0, 0, 0), some (.iload_n 1, 0, 0, 0, 0), some (.iadd, 0, 0, 0, 0), some (.bipush 20, 0, 0, 0, 0), none, some (.iastore, 0, 0, 0, 0), some (.aload_n 0, 0, 0, 0, 0), some (.getfield 7, 11, 0, 0, 139), none, none, some (.bipush 50, 0, 0, 0, 0), none, some (.iload_n 1, 0, 0, 0, 0), some (.iadd, 0, 0, 0, 0), some (.sipush 1000, 0, 0, 0, 0), none, none, some (.iastore, 0, 0, 0, 0), some (.iinc 1 1, 0, 0, 0, 0), none, none, some (.goto (-31), 245, 0, 0, 0), none, none, some (.iconst 0, 0, 0, 0, 0), some (.istore_n 1, 0, 0, 0, 0), some (.iload_n 1, 0, 0, 0, 0), some (.bipush 50, 0, 0, 0, 0), none, some (.if_icmp .ge 20, 304, 0, 0, 0), none, none, some (.aload_n 0, 0, 0, 0, 0), some (.getfield 7, 11, 0, 0, 139), none, none, some (.sipush 200, 0, 0, 0, 0), none, none, some (.iload_n 1, 0, 0, 0, 0), some (.iadd, 0, 0, 0, 0), some (.iconst (-1), 0, 0, 0, 0), some (.iastore, 0, 0, 0, 0), some (.iinc 1 1, 0, 0, 0, 0), none]
def zC_122_2 : List (Option zE) := [none, some (.goto (-20), 281, 0, 0, 0), none, none, some (.aload_n 0, 0, 0, 0, 0), some (.getfield 7, 11, 0, 0, 139), none, none, some (.sipush 638, 0, 0, 0, 0), none, none, some (.bipush 9, 0, 0, 0, 0), none, some (.iastore, 0, 0, 0, 0), some (.return_, 0, 0, 0, 0)]
def zC_122 : List (Option zE) := zC_122_0 ++ (zC_122_1 ++ (zC_122_2))
def zC_123 : List (Option zE) := [some (.aload_n 0, 0, 0, 0, 0), some (.getfield 60, 11, 17, 0, 155), none, none, some (.iload_n 1, 0, 0, 0, 0), some (.ineg, 0, 0, 0, 0), some (.dup2, 0, 0, 0, 0), some (.iaload, 0, 0, 0, 0), some (.iconst 1, 0, 0, 0, 0), some (.iadd, 0, 0, 0, 0), some (.iastore, 0, 0, 0, 0), some (.iload_n 1, 0, 0, 0, 0), some (.ireturn, 0, 0, 0, 0)]
def zC_124 : List (Option zE) := [some (.iload_n 0, 0, 0, 0, 0), some (.ifCond .lt 13, 14, 0, 0, 0), none, none, some (.iload_n 0, 0, 0, 0, 0), some (.bipush 25, 0, 0, 0, 0), none, some (.if_icmp .ge 7, 14, 0, 0, 0), none, none, some (.iconst 1, 0, 0, 0, 0), some (.goto 4, 15, 0, 0, 0), none, none, some (.iconst 0, 0, 0, 0, 0), some (.ireturn, 0, 0, 0, 0)]
def zC_125 : List (Option zE) := [some (.iload_n 0, 0, 0, 0, 0), some (.ifCond .lt 13, 14, 0, 0, 0), none, none, some (.iload_n 0, 0, 0, 0, 0), some (.bipush 8, 0, 0, 0, 0), none, some (.if_icmp .ge 7, 14, 0, 0, 0), none, none, some (.iconst 1, 0, 0, 0, 0), some (.goto 4, 15, 0, 0, 0), none, none, some (.iconst 0, 0, 0, 0, 0), some (.ireturn, 0, 0, 0, 0)]
def zC_126 : List (Option zE) := [some (.iload_n 0, 0, 0, 0, 0), some (.invokestatic 99, 124, 1, 1, 128), none, none, some (.ifCond .eq 10, 14, 0, 0, 0), none, none, some (.iload_n 1, 0, 0, 0, 0), some (.invokestatic 99, 124, 1, 1, 128), none, none, some (.ifCond .ne 5, 16, 0, 0, 0), none, none, some (.iconst (-1), 0, 0, 0, 0), some (.ireturn, 0, 0, 0, 0), some (.iload_n 0, 0, 0, 0, 0), some (.iload_n 1, 0, 0, 0, 0), some (.if_icmp .ge 7, 25, 0, 0, 0), none, none, some (.iload_n 0, 0, 0, 0, 0), some (.goto 4, 26, 0, 0, 0), none, none, some (.iload_n 1, 0, 0, 0, 0), some (.istore_n 2, 0, 0, 0, 0), some (.iload_n 0, 0, 0, 0, 0), some (.iload_n 1, 0, 0, 0, 0), some (.if_icmp .ge 7, 36, 0, 0, 0), none, none, some (.iload_n 1, 0, 0, 0, 0), some (.goto 4, 37, 0, 0, 0), none, none, some (.iload_n 0, 0, 0, 0, 0), some (.istore_n 3, 0, 0, 0, 0), some (.iload_n 3, 0, 0, 0, 0), some (.iload_n 2, 0, 0, 0, 0), some (.iconst 5, 0, 0, 0, 0), some (.iadd, 0, 0, 0, 0), some (.if_icmp .ne 9, 51, 0, 0, 0), none, none, some (.iconst 2, 0, 0, 0, 0), some (.iload_n 2, 0, 0, 0, 0), some (.imul, 0, 0, 0, 0), some (.iconst 1, 0, 0, 0, 0), some (.iadd, 0, 0, 0, 0), some (.ireturn, 0, 0, 0, 0), some (.iload_n 3, 0, 0, 0, 0), some (.iload_n 2, 0, 0, 0, 0), some (.iconst 1, 0, 0, 0, 0), some (.iadd, 0, 0, 0, 0), some (.if_icmp .ne 16, 71, 0, 0, 0), none, none, some (.iload_n 2, 0, 0, 0, 0), some (.iconst 5, 0, 0, 0, 0), some (.irem, 0, 0, 0, 0), some (.iconst 4, 0, 0, 0, 0), some (.if_icmp .ge 9, 71, 0, 0, 0), none, none, some (.iconst 2, 0, 0, 0, 0), some (.iload_n 2, 0, 0, 0, 0), some (.imul, 0, 0, 0, 0), some (.goto 4, 72, 0, 0, 0), none, none, some (.iconst (-1), 0, 0, 0, 0), some (.ireturn, 0, 0, 0, 0)]
def zC_127 : List (Option zE) := [some (.iload_n 1, 0, 0, 0, 0), some (.invokestatic 99, 124, 1, 1, 128), none, none, some (.ifCond .ne 9, 13, 0, 0, 0), none, none, some (.aload_n 0, 0, 0, 0, 0), some (.iconst (-1), 0, 0, 0, 0), some (.invokevirtual 103, 123, 0, 2, 129), none, none, some (.ireturn, 0, 0, 0, 0), some (.iload_n 2, 0, 0, 0, 0), some (.ifCond .lt 9, 23, 0, 0, 0), none, none, some (.iload_n 2, 0, 0, 0, 0), some (.bipush 60, 0, 0, 0, 0), none, some (.if_icmp .le 10, 30, 0, 0, 0), none, none, some (.aload_n 0, 0, 0, 0, 0), some (.bipush (-6), 0, 0, 0, 0), none, some (.invokevirtual 103, 123, 0, 2, 129), none, none, some (.ireturn, 0, 0, 0, 0), some (.aload_n 0, 0, 0, 0, 0), some (.getfield 7, 11, 0, 0, 139), none, none, some (.iconst 0, 0, 0, 0, 0), some (.iload_n 1, 0, 0, 0, 0), some (.iadd, 0, 0, 0, 0), some (.iaload, 0, 0, 0, 0), some (.istore_n 3, 0, 0, 0, 0), some (.aload_n 0, 0, 0, 0, 0), some (.getfield 7, 11, 0, 0, 139), none, none, some (.iconst 0, 0, 0, 0, 0), some (.iload_n 1, 0, 0, 0, 0), some (.iadd, 0, 0, 0, 0), some (.iload_n 2, 0, 0, 0, 0), some (.iastore, 0, 0, 0, 0), some (.iload_n 3, 0, 0, 0, 0), some (.ireturn, 0, 0, 0, 0)]
def zC_128 : List (Option zE) := [some (.iload_n 1, 0, 0, 0, 0), some (.invokestatic 99, 124, 1, 1, 128), none, none, some (.ifCond .ne 9, 13, 0, 0, 0), none, none, some (.aload_n 0, 0, 0, 0, 0), some (.iconst (-1), 0, 0, 0, 0), some (.invokevirtual 103, 123, 0, 2, 129), none, none, some (.ireturn, 0, 0, 0, 0), some (.iload_n 2, 0, 0, 0, 0), some (.sipush (-300), 0, 0, 0, 0), none, none, some (.if_icmp .lt 10, 27, 0, 0, 0), none, none, some (.iload_n 2, 0, 0, 0, 0), some (.sipush 300, 0, 0, 0, 0), none, none, some (.if_icmp .le 10, 34, 0, 0, 0), none, none, some (.aload_n 0, 0, 0, 0, 0), some (.bipush (-6), 0, 0, 0, 0), none, some (.invokevirtual 103, 123, 0, 2, 129), none, none, some (.ireturn, 0, 0, 0, 0), some (.aload_n 0, 0, 0, 0, 0), some (.getfield 7, 11, 0, 0, 139), none, none, some (.bipush 25, 0, 0, 0, 0), none, some (.iload_n 1, 0, 0, 0, 0), some (.iadd, 0, 0, 0, 0), some (.iaload, 0, 0, 0, 0), some (.istore_n 3, 0, 0, 0, 0), some (.aload_n 0, 0, 0, 0, 0), some (.getfield 7, 11, 0, 0, 139), none, none, some (.bipush 25, 0, 0, 0, 0), none, some (.iload_n 1, 0, 0, 0, 0), some (.iadd, 0, 0, 0, 0), some (.iload_n 2, 0, 0, 0, 0), some (.iastore, 0, 0, 0, 0), some (.aload_n 0, 0, 0, 0, 0), some (.getfield 7, 11, 0, 0, 139), none, none, some (.sipush 645, 0, 0, 0, 0), none, none, some (.dup2, 0, 0, 0, 0), some (.iaload, 0, 0, 0, 0), some (.iload_n 2, 0, 0, 0, 0), some (.iload_n 3, 0, 0, 0, 0), some (.isub, 0, 0, 0, 0), some (.iadd, 0, 0, 0, 0), some (.iastore, 0, 0, 0, 0), some (.iload_n 3, 0, 0, 0, 0), some (.ireturn, 0, 0, 0, 0)]
def zC_129 : List (Option zE) := [some (.iload_n 2, 0, 0, 0, 0), some (.ifCond .eq 7, 8, 0, 0, 0), none, none, some (.iconst 1, 0, 0, 0, 0), some (.goto 4, 9, 0, 0, 0), none, none, some (.iconst 0, 0, 0, 0, 0), some (.istore_n 3, 0, 0, 0, 0), some (.aload_n 0, 0, 0, 0, 0), some (.getfield 7, 11, 0, 0, 139), none, none, some (.iload_n 1, 0, 0, 0, 0), some (.iaload, 0, 0, 0, 0), some (.iload_n 3, 0, 0, 0, 0), some (.if_icmp .ne 5, 22, 0, 0, 0), none, none, some (.iconst 0, 0, 0, 0, 0), some (.ireturn, 0, 0, 0, 0), some (.aload_n 0, 0, 0, 0, 0), some (.getfield 7, 11, 0, 0, 139), none, none, some (.iload_n 1, 0, 0, 0, 0), some (.iload_n 3, 0, 0, 0, 0), some (.iastore, 0, 0, 0, 0), some (.iconst 1, 0, 0, 0, 0), some (.ireturn, 0, 0, 0, 0)]
def zC_130 : List (Option zE) := [some (.iload_n 1, 0, 0, 0, 0), some (.iload_n 2, 0, 0, 0, 0), some (.invokestatic 107, 126, 1, 2, 130), none, none, some (.istore 4, 0, 0, 0, 0), none, some (.iload 4, 0, 0, 0, 0), none, some (.iconst (-1), 0, 0, 0, 0), some (.if_icmp .ne 11, 21, 0, 0, 0), none, none, some (.aload_n 0, 0, 0, 0, 0), some (.iconst (-1), 0, 0, 0, 0), some (.invokevirtual 103, 123, 0, 2, 129), none, none, some (.goto 13, 31, 0, 0, 0), none, none, some (.aload_n 0, 0, 0, 0, 0), some (.bipush 100, 0, 0, 0, 0), none, some (.iload 4, 0, 0, 0, 0), none, some (.iadd, 0, 0, 0, 0), some (.iload_n 3, 0, 0, 0, 0), some (.invokevirtual 111, 129, 0, 3, 131), none, none, some (.ireturn, 0, 0, 0, 0)]
def zC_131 : List (Option zE) := [some (.iload_n 1, 0, 0, 0, 0), some (.iload_n 2, 0, 0, 0, 0), some (.invokestatic 107, 126, 1, 2, 130), none, none, some (.istore 4, 0, 0, 0, 0), none, some (.iload 4, 0, 0, 0, 0), none, some (.iconst (-1), 0, 0, 0, 0), some (.if_icmp .ne 11, 21, 0, 0, 0), none, none, some (.aload_n 0, 0, 0, 0, 0), some (.iconst (-1), 0, 0, 0, 0), some (.invokevirtual 103, 123, 0, 2, 129), none, none, some (.goto 14, 32, 0, 0, 0), none, none, some (.aload_n 0, 0, 0, 0, 0), some (.sipush 150, 0, 0, 0, 0), none, none, some (.iload 4, 0, 0, 0, 0), none, some (.iadd, 0, 0, 0, 0), some (.iload_n 3, 0, 0, 0, 0), some (.invokevirtual 111, 129, 0, 3, 131), none, none, some (.ireturn, 0, 0, 0, 0)]
def zC_132 : List (Option zE) := [some (.iload_n 1, 0, 0, 0, 0), some (.iload_n 2, 0, 0, 0, 0), some (.invokestatic 107, 126, 1, 2, 130), none, none, some (.istore 4, 0, 0, 0, 0), none, some (.iload 4, 0, 0, 0, 0), none, some (.iconst (-1), 0, 0, 0, 0), some (.if_icmp .ne 9, 19, 0, 0, 0), none, none, some (.aload_n 0, 0, 0, 0, 0), some (.iconst (-1), 0, 0, 0, 0), some (.invokevirtual 103, 123, 0, 2, 129), none, none, some (.ireturn, 0, 0, 0, 0), some (.iload_n 3, 0, 0, 0, 0), some (.iconst (-1), 0, 0, 0, 0), some (.if_icmp .lt 9, 30, 0, 0, 0), none, none, some (.iload_n 3, 0, 0, 0, 0), some (.bipush 99, 0, 0, 0, 0), none, some (.if_icmp .le 10, 37, 0, 0, 0), none, none, some (.aload_n 0, 0, 0, 0, 0), some (.bipush (-6), 0, 0, 0, 0), none, some (.invokevirtual 103, 123, 0, 2, 129), none, none, some (.ireturn, 0, 0, 0, 0), some (.aload_n 0, 0, 0, 0, 0), some (.getfield 7, 11, 0, 0, 139), none, none, some (.sipush 200, 0, 0, 0, 0), none, none, some (.iload 4, 0, 0, 0, 0), none, some (.iadd, 0, 0, 0, 0), some (.iaload, 0, 0, 0, 0), some (.istore 5, 0, 0, 0, 0), none, some (.aload_n 0, 0, 0, 0, 0), some (.getfield 7, 11, 0, 0, 139), none, none, some (.sipush 200, 0, 0, 0, 0), none, none, some (.iload 4, 0, 0, 0, 0), none, some (.iadd, 0, 0, 0, 0), some (.iload_n 3, 0, 0, 0, 0), some (.iastore, 0, 0, 0, 0), some (.iload 5, 0, 0, 0, 0), none, some (.ireturn, 0, 0, 0, 0)]
def zC_133 : List (Option zE) := [some (.iload_n 1, 0, 0, 0, 0), some (.invokestatic 99, 124, 1, 1, 128), none, none, some (.ifCond .ne 9, 13, 0, 0, 0), none, none, some (.aload_n 0, 0, 0, 0, 0), some (.iconst (-1), 0, 0, 0, 0), some (.invokevirtual 103, 123, 0, 2, 129), none, none, some (.ireturn, 0, 0, 0, 0), some (.iconst 0, 0, 0, 0, 0), some (.istore_n 2, 0, 0, 0, 0), some (.iload_n 2, 0, 0, 0, 0), some (.aload_n 0, 0, 0, 0, 0), some (.getfield 7, 11, 0, 0, 139), none, none, some (.sipush 633, 0, 0, 0, 0), none, none, some (.iaload, 0, 0, 0, 0), some (.if_icmp .ge 30, 54, 0, 0, 0), none, none, some (.aload_n 0, 0, 0, 0, 0), some (.getfield 7, 11, 0, 0, 139), none, none, some (.sipush 250, 0, 0, 0, 0), none, none, some (.iload_n 2, 0, 0, 0, 0), some (.iadd, 0, 0, 0, 0), some (.iaload, 0, 0, 0, 0), some (.iload_n 1, 0, 0, 0, 0), some (.if_icmp .ne 10, 48, 0, 0, 0), none, none, some (.aload_n 0, 0, 0, 0, 0), some (.bipush (-6), 0, 0, 0, 0), none, some (.invokevirtual 103, 123, 0, 2, 129), none, none, some (.ireturn, 0, 0, 0, 0), some (.iinc 2 1, 0, 0, 0, 0), none, none, some (.goto (-36), 15, 0, 0, 0), none, none, some (.aload_n 0, 0, 0, 0, 0), some (.getfield 7, 11, 0, 0, 139), none, none, some (.sipush 633, 0, 0, 0, 0), none, none, some (.iaload, 0, 0, 0, 0), some (.iconst 3, 0, 0, 0, 0), some (.if_icmp .ne 10, 73, 0, 0, 0), none, none, some (.aload_n 0, 0, 0, 0, 0), some (.bipush (-7), 0, 0, 0, 0), none, some (.invokevirtual 103, 123, 0, 2, 129), none, none, some (.ireturn, 0, 0, 0, 0), some (.aload_n 0, 0, 0, 0, 0), some (.getfield 7, 11, 0, 0, 139), none, none, some (.sipush 250, 0, 0, 0, 0), none, none, some (.aload_n 0, 0, 0, 0, 0), some (.getfield 7, 11, 0, 0, 139), none, none, some (.sipush 633, 0, 0, 0, 0), none, none, some (.iaload, 0, 0, 0, 0), some (.iadd, 0, 0, 0, 0), some (.iload_n 1, 0, 0, 0, 0), some (.iastore, 0, 0, 0, 0), some (.aload_n 0, 0, 0, 0, 0), some (.getfield 7, 11, 0, 0, 139), none, none, some (.sipush 253, 0, 0, 0, 0), none, none, some (.aload_n 0, 0, 0, 0, 0), some (.getfield 7, 11, 0, 0, 139), none, none, some (.sipush 633, 0, 0, 0, 0), none, none, some (.iaload, 0, 0, 0, 0), some (.iadd, 0, 0, 0, 0), some (.iconst 0, 0, 0, 0, 0), some (.iastore, 0, 0, 0, 0), some (.aload_n 0, 0, 0, 0, 0), some (.getfield 7, 11, 0, 0, 139), none, none, some (.sipush 633, 0, 0, 0, 0), none, none, some (.dup2, 0, 0, 0, 0), some (.iaload, 0, 0, 0, 0), some (.dup_x2, 0, 0, 0, 0), some (.iconst 1, 0, 0, 0, 0), some (.iadd, 0, 0, 0, 0), some (.iastore, 0, 0, 0, 0), some (.ireturn, 0, 0, 0, 0)]
def zC_134 : List (Option zE) := [some (.iload_n 1, 0, 0, 0, 0), some (.ifCond .lt 15, 16, 0, 0, 0), none, none, some (.iload_n 1, 0, 0, 0, 0), some (.aload_n 0, 0, 0, 0, 0), some (.getfield 7, 11, 0, 0, 139), none, none, some (.sipush 633, 0, 0, 0, 0), none, none, some (.iaload, 0, 0, 0, 0), some (.if_icmp .lt 11, 24, 0, 0, 0), none, none, some (.aload_n 0, 0, 0, 0, 0), some (.iconst (-1), 0, 0, 0, 0), some (.invokevirtual 103, 123, 0, 2, 129), none, none, some (.goto 13, 34, 0, 0, 0), none, none, some (.aload_n 0, 0, 0, 0, 0), some (.sipush 253, 0, 0, 0, 0), none, none, some (.iload_n 1, 0, 0, 0, 0), some (.iadd, 0, 0, 0, 0), some (.iload_n 2, 0, 0, 0, 0), some (.invokevirtual 111, 129, 0, 3, 131), none, none, some (.ireturn, 0, 0, 0, 0)]
def zC_135 : List (Option zE) := [some (.iload_n 1, 0, 0, 0, 0), some (.invokestatic 115, 125, 1, 1, 132), none, none, some (.ifCond .ne 9, 13, 0, 0, 0), none, none, some (.aload_n 0, 0, 0, 0, 0), some (.iconst (-1), 0, 0, 0, 0), some (.invokevirtual 103, 123, 0, 2, 129), none, none, some (.ireturn, 0, 0, 0, 0), some (.iload_n 3, 0, 0, 0, 0), some (.ifCond .ge 10, 24, 0, 0, 0), none, none, some (.aload_n 0, 0, 0, 0, 0), some (.bipush (-4), 0, 0, 0, 0), none, some (.invokevirtual 103, 123, 0, 2, 129), none, none, some (.ireturn, 0, 0, 0, 0), some (.iload_n 2, 0, 0, 0, 0), some (.ifCond .lt 8, 33, 0, 0, 0), none, none, some (.iload_n 2, 0, 0, 0, 0), some (.iconst 3, 0, 0, 0, 0), some (.if_icmp .le 10, 40, 0, 0, 0), none, none, some (.aload_n 0, 0, 0, 0, 0), some (.bipush (-6), 0, 0, 0, 0), none, some (.invokevirtual 103, 123, 0, 2, 129), none, none, some (.ireturn, 0, 0, 0, 0), some (.iload_n 3, 0, 0, 0, 0), some (.bipush 96, 0, 0, 0, 0), none, some (.if_icmp .le 10, 53, 0, 0, 0), none, none, some (.aload_n 0, 0, 0, 0, 0), some (.bipush (-7), 0, 0, 0, 0), none, some (.invokevirtual 103, 123, 0, 2, 129), none, none, some (.ireturn, 0, 0, 0, 0), some (.aload_n 0, 0, 0, 0, 0), some (.getfield 19, 11, 4, 0, 142), none, none, some (.iload_n 1, 0, 0, 0, 0), some (.iconst 1, 0, 0, 0, 0), some (.iastore, 0, 0, 0, 0), some (.aload_n 0, 0, 0, 0, 0), some (.getfield 22, 11, 5, 0, 143), none, none, some (.iload_n 1, 0, 0, 0, 0), some (.iload_n 2, 0, 0, 0, 0), some (.iastore, 0, 0, 0, 0), some (.aload_n 0, 0, 0, 0, 0), some (.getfield 25, 11, 6, 0, 144), none, none, some (.iload_n 1, 0, 0, 0, 0), some (.iload_n 3, 0, 0, 0, 0), some (.iastore, 0, 0, 0, 0), some (.iconst 0, 0, 0, 0, 0), some (.istore 4, 0, 0, 0, 0), none, some (.iload 4, 0, 0, 0, 0), none, some (.bipush 96, 0, 0, 0, 0), none, some (.if_icmp .ge 22, 103, 0, 0, 0), none, none, some (.aload_n 0, 0, 0, 0, 0), some (.getfield 31, 11, 8, 0, 146), none, none, some (.bipush 96, 0, 0, 0, 0), none, some (.iload_n 1, 0, 0, 0, 0), some (.imul, 0, 0, 0, 0), some (.iload 4, 0, 0, 0, 0), none, some (.iadd, 0, 0, 0, 0), some (.lconst 0, 0, 0, 0, 0), some (.lastore, 0, 0, 0, 0), some (.iinc 4 1, 0, 0, 0, 0), none, none, some (.goto (-23), 77, 0, 0, 0), none, none, some (.iconst 1, 0, 0, 0, 0), some (.ireturn, 0, 0, 0, 0)]
def zC_136 : List (Option zE) := [some (.iload_n 1, 0, 0, 0, 0), some (.invokestatic 115, 125, 1, 1, 132), none, none, some (.ifCond .ne 9, 13, 0, 0, 0), none, none, some (.aload_n 0, 0, 0, 0, 0), some (.iconst (-1), 0, 0, 0, 0), some (.invokevirtual 103, 123, 0, 2, 129), none, none, some (.ireturn, 0, 0, 0, 0), some (.aload_n 0, 0, 0, 0, 0), some (.getfield 19, 11, 4, 0, 142), none, none, some (.iload_n 1, 0, 0, 0, 0), some (.iaload, 0, 0, 0, 0), some (.iconst 2, 0, 0, 0, 0), some (.if_icmp .ne 10, 30, 0, 0, 0), none, none, some (.aload_n 0, 0, 0, 0, 0), some (.bipush (-2), 0, 0, 0, 0), none, some (.invokevirtual 103, 123, 0, 2, 129), none, none, some (.ireturn, 0, 0, 0, 0), some (.aload_n 0, 0, 0, 0, 0), some (.getfield 19, 11, 4, 0, 142), none, none, some (.iload_n 1, 0, 0, 0, 0), some (.iaload, 0, 0, 0, 0), some (.ifCond .ne 10, 46, 0, 0, 0), none, none, some (.aload_n 0, 0, 0, 0, 0), some (.bipush (-3), 0, 0, 0, 0), none, some (.invokevirtual 103, 123, 0, 2, 129), none, none, some (.ireturn, 0, 0, 0, 0), some (.iload_n 2, 0, 0, 0, 0), some (.ifCond .lt 13, 60, 0, 0, 0), none, none, some (.iload_n 2, 0, 0, 0, 0), some (.aload_n 0, 0, 0, 0, 0), some (.getfield 25, 11, 6, 0, 144), none, none, some (.iload_n 1, 0, 0, 0, 0), some (.iaload, 0, 0, 0, 0), some (.if_icmp .lt 10, 67, 0, 0, 0), none, none, some (.aload_n 0, 0, 0, 0, 0), some (.bipush (-5), 0, 0, 0, 0), none, some (.invokevirtual 103, 123, 0, 2, 129), none, none, some (.ireturn, 0, 0, 0, 0), some (.aload_n 0, 0, 0, 0, 0), some (.getfield 31, 11, 8, 0, 146), none, none, some (.bipush 96, 0, 0, 0, 0), none, some (.iload_n 1, 0, 0, 0, 0), some (.imul, 0, 0, 0, 0), some (.iload_n 2, 0, 0, 0, 0), some (.iadd, 0, 0, 0, 0), some (.aload_n 0, 0, 0, 0, 0), some (.getfield 22, 11, 5, 0, 143), none, none, some (.iload_n 1, 0, 0, 0, 0), some (.iaload, 0, 0, 0, 0), some (.ifCond .ne 10, 93, 0, 0, 0), none, none, some (.lload_n 3, 0, 0, 0, 0), some (.l2i, 0, 0, 0, 0), some (.i2b, 0, 0, 0, 0), some (.i2l, 0, 0, 0, 0), some (.goto 37, 127, 0, 0, 0), none, none, some (.aload_n 0, 0, 0, 0, 0), some (.getfield 22, 11, 5, 0, 143), none, none, some (.iload_n 1, 0, 0, 0, 0), some (.iaload, 0, 0, 0, 0), some (.iconst 1, 0, 0, 0, 0), some (.if_icmp .ne 10, 110, 0, 0, 0), none, none, some (.lload_n 3, 0, 0, 0, 0), some (.l2i, 0, 0, 0, 0), some (.i2s, 0, 0, 0, 0), some (.i2l, 0, 0, 0, 0), some (.goto 20, 127, 0, 0, 0), none, none, some (.aload_n 0, 0, 0, 0, 0), some (.getfield 22, 11, 5, 0, 143), none, none, some (.iload_n 1, 0, 0, 0, 0), some (.iaload, 0, 0, 0, 0), some (.iconst 2, 0, 0, 0, 0), some (.if_icmp .ne 9, 126, 0, 0, 0), none, none, some (.lload_n 3, 0, 0, 0, 0), some (.l2i, 0, 0, 0, 0), some (.i2l, 0, 0, 0, 0), some (.goto 4, 127, 0, 0, 0), none, none, some (.lload_n 3, 0, 0, 0, 0), some (.lastore, 0, 0, 0, 0), some (.iconst 1, 0, 0, 0, 0), some (.ireturn, 0, 0, 0, 0)]
def zC_137_0 : List (Option zE) := [some (.iload_n 1, 0, 0, 0, 0), some (.invokestatic 115, 125, 1, 1, 132), none, none, some (.ifCond .eq 10, 14, 0, 0, 0), none, none, some (.iload_n 2, 0, 0, 0, 0), some (.invokestatic 115, 125, 1, 1, 132), none, none, some (.ifCond .ne 9, 20, 0, 0, 0), none, none, some (.aload_n 0, 0, 0, 0, 0), some (.iconst (-1), 0, 0, 0, 0), some (.invokevirtual 103, 123, 0, 2, 129), none, none, some (.ireturn, 0, 0, 0, 0), some (.aload_n 0, 0, 0, 0, 0), some (.getfield 19, 11, 4, 0, 142), none, none, some (.iload_n 1, 0, 0, 0, 0), some (.iaload, 0, 0, 0, 0), some (.iconst 2, 0, 0, 0, 0), some (.if_icmp .eq 48, 75, 0, 0, 0), none, none, some (.aload_n 0, 0, 0, 0, 0), some (.getfield 19, 11, 4, 0, 142), none, none, some (.iload_n 2, 0, 0, 0, 0), some (.iaload, 0, 0, 0, 0), some (.iconst 2, 0, 0, 0, 0), some (.if_icmp .eq 38, 75, 0, 0, 0), none, none, some (.aload_n 0, 0, 0, 0, 0), some (.getfield 19, 11, 4, 0, 142), none, none, some (.iload_n 1, 0, 0, 0, 0), some (.iaload, 0, 0, 0, 0), some (.iconst 1, 0, 0, 0, 0), some (.if_icmp .ne 35, 82, 0, 0, 0), none, none, some (.aload_n 0, 0, 0, 0, 0), some (.getfield 19, 11, 4, 0, 142), none, none, some (.iload_n 2, 0, 0, 0, 0), some (.iaload, 0, 0, 0, 0), some (.iconst 1, 0, 0, 0, 0), some (.if_icmp .ne 25, 82, 0, 0, 0), none, none, some (.aload_n 0, 0, 0, 0, 0), some (.getfield 22, 11, 5, 0, 143), none, none, some (.iload_n 1, 0, 0, 0, 0), some (.iaload, 0, 0, 0, 0), some (.aload_n 0, 0, 0, 0, 0), some (.getfield 22, 11, 5, 0, 143), none, none, some (.iload_n 2, 0, 0, 0, 0), some (.iaload, 0, 0, 0, 0), some (.if_icmp .eq 10, 82, 0, 0, 0), none, none, some (.aload_n 0, 0, 0, 0, 0), some (.bipush (-2), 0, 0, 0, 0), none, some (.invokevirtual 103, 123, 0, 2, 129), none, none, some (.ireturn, 0, 0, 0, 0), some (.aload_n 0, 0, 0, 0, 0), some (.getfield 19, 11, 4, 0, 142), none, none, some (.iload_n 1, 0, 0, 0, 0), some (.iaload, 0, 0, 0, 0), some (.ifCond .eq 12, 100, 0, 0, 0), none, none, some (.aload_n 0, 0, 0, 0, 0), some (.getfield 19, 11, 4, 0, 142), none, none, some (.iload_n 2, 0, 0, 0, 0), some (.iaload, 0, 0, 0, 0), some (.ifCond .ne 10, 107, 0, 0, 0), none, none, some (.aload_n 0, 0, 0, 0, 0), some (.bipush (-3), 0, 0, 0, 0), none, some (.invokevirtual 103, 123, 0, 2, 129), none, none, some (.ireturn, 0, 0, 0, 0), some (.iload 5, 0, 0, 0, 0), none, some (.ifCond .ge 10, 119, 0, 0, 0), none, none, some (.aload_n 0, 0, 0, 0, 0), some (.bipush (-4), 0, 0, 0, 0), none, some (.invokevirtual 103, 123, 0, 2, 129), none, none, some (.ireturn, 0, 0, 0, 0), some (.iload_n 3, 0, 0, 0, 0), some (.ifCond .lt 35, 155, 0, 0, 0), none, none, some (.iload 4, 0, 0, 0, 0), none, some (.ifCond .lt 30, 155, 0, 0, 0), none, none, some (.iload_n 3, 0, 0, 0, 0), some (.aload_n 0, 0, 0, 0, 0), some (.getfield 25, 11, 6, 0, 144), none, none, some (.iload_n 1, 0, 0, 0, 0), some (.iaload, 0, 0, 0, 0), some (.iload 5, 0, 0, 0, 0), none, some (.isub, 0, 0, 0, 0), some (.if_icmp .gt 17, 155, 0, 0, 0), none, none, some (.iload 4, 0, 0, 0, 0), none, some (.aload_n 0, 0, 0, 0, 0), some (.getfield 25, 11, 6, 0, 144), none, none, some (.iload_n 2, 0, 0, 0, 0), some (.iaload, 0, 0, 0, 0), some (.iload 5, 0, 0, 0, 0)]
def zC_137_1 : List (Option zE) := [none, some (.isub, 0, 0, 0, 0), some (.if_icmp .le 10, 162, 0, 0, 0), none, none, some (.aload_n 0, 0, 0, 0, 0), some (.bipush (-5), 0, 0, 0, 0), none, some (.invokevirtual 103, 123, 0, 2, 129), none, none, some (.ireturn, 0, 0, 0, 0), some (.iconst 0, 0, 0, 0, 0), some (.istore 6, 0, 0, 0, 0), none, some (.iload 6, 0, 0, 0, 0), none, some (.iload 5, 0, 0, 0, 0), none, some (.if_icmp .ge 30, 199, 0, 0, 0), none, none, some (.aload_n 0, 0, 0, 0, 0), some (.getfield 35, 11, 9, 0, 147), none, none, some (.iload 6, 0, 0, 0, 0), none, some (.aload_n 0, 0, 0, 0, 0), some (.getfield 31, 11, 8, 0, 146), none, none, some (.bipush 96, 0, 0, 0, 0), none, some (.iload_n 1, 0, 0, 0, 0), some (.imul, 0, 0, 0, 0), some (.iload_n 3, 0, 0, 0, 0), some (.iadd, 0, 0, 0, 0), some (.iload 6, 0, 0, 0, 0), none, some (.iadd, 0, 0, 0, 0), some (.laload, 0, 0, 0, 0), some (.lastore, 0, 0, 0, 0), some (.iinc 6 1, 0, 0, 0, 0), none, none, some (.goto (-31), 165, 0, 0, 0), none, none, some (.iconst 0, 0, 0, 0, 0), some (.istore 6, 0, 0, 0, 0), none, some (.iload 6, 0, 0, 0, 0), none, some (.iload 5, 0, 0, 0, 0), none, some (.if_icmp .ge 31, 237, 0, 0, 0), none, none, some (.aload_n 0, 0, 0, 0, 0), some (.getfield 31, 11, 8, 0, 146), none, none, some (.bipush 96, 0, 0, 0, 0), none, some (.iload_n 2, 0, 0, 0, 0), some (.imul, 0, 0, 0, 0), some (.iload 4, 0, 0, 0, 0), none, some (.iadd, 0, 0, 0, 0), some (.iload 6, 0, 0, 0, 0), none, some (.iadd, 0, 0, 0, 0), some (.aload_n 0, 0, 0, 0, 0), some (.getfield 35, 11, 9, 0, 147), none, none, some (.iload 6, 0, 0, 0, 0), none, some (.laload, 0, 0, 0, 0), some (.lastore, 0, 0, 0, 0), some (.iinc 6 1, 0, 0, 0, 0), none, none, some (.goto (-32), 202, 0, 0, 0), none, none, some (.iconst 1, 0, 0, 0, 0), some (.ireturn, 0, 0, 0, 0)]
def zC_137 : List (Option zE) := zC_137_0 ++ (zC_137_1)
def zC_138 : List (Option zE) := [some (.iload_n 1, 0, 0, 0, 0), some (.invokestatic 115, 125, 1, 1, 132), none, none, some (.ifCond .eq 41, 45, 0, 0, 0), none, none, some (.aload_n 0, 0, 0, 0, 0), some (.getfield 19, 11, 4, 0, 142), none, none, some (.iload_n 1, 0, 0, 0, 0), some (.iaload, 0, 0, 0, 0), some (.iconst 1, 0, 0, 0, 0), some (.if_icmp .ne 31, 45, 0, 0, 0), none, none, some (.iload_n 2, 0, 0, 0, 0), some (.ifCond .lt 27, 45, 0, 0, 0), none, none, some (.iload_n 2, 0, 0, 0, 0), some (.aload_n 0, 0, 0, 0, 0), some (.getfield 25, 11, 6, 0, 144), none, none, some (.iload_n 1, 0, 0, 0, 0), some (.iaload, 0, 0, 0, 0), some (.if_icmp .ge 17, 45, 0, 0, 0), none, none, some (.aload_n 0, 0, 0, 0, 0), some (.getfield 31, 11, 8, 0, 146), none, none, some (.bipush 96, 0, 0, 0, 0), none, some (.iload_n 1, 0, 0, 0, 0), some (.imul, 0, 0, 0, 0), some (.iload_n 2, 0, 0, 0, 0), some (.iadd, 0, 0, 0, 0), some (.laload, 0, 0, 0, 0), some (.goto 4, 46, 0, 0, 0), none, none, some (.lconst 0, 0, 0, 0, 0), some (.lreturn, 0, 0, 0, 0)]
def zC_139 : List (Option zE) := [some (.iload_n 1, 0, 0, 0, 0), some (.ifCond .lt 19, 20, 0, 0, 0), none, none, some (.iload_n 1, 0, 0, 0, 0), some (.aload_n 0, 0, 0, 0, 0), some (.getfield 7, 11, 0, 0, 139), none, none, some (.sipush 641, 0, 0, 0, 0), none, none, some (.iaload, 0, 0, 0, 0), some (.if_icmp .ge 7, 20, 0, 0, 0), none, none, some (.iconst 1, 0, 0, 0, 0), some (.goto 4, 21, 0, 0, 0), none, none, some (.iconst 0, 0, 0, 0, 0), some (.ireturn, 0, 0, 0, 0)]
def zC_140 : List (Option zE) := [some (.iload_n 1, 0, 0, 0, 0), some (.invokestatic 115, 125, 1, 1, 132), none, none, some (.ifCond .eq 16, 20, 0, 0, 0), none, none, some (.iload_n 2, 0, 0, 0, 0), some (.iconst (-1), 0, 0, 0, 0), some (.if_icmp .eq 17, 26, 0, 0, 0), none, none, some (.aload_n 0, 0, 0, 0, 0), some (.iload_n 2, 0, 0, 0, 0), some (.invokevirtual 118, 139, 0, 2, 133), none, none, some (.ifCond .ne 9, 26, 0, 0, 0), none, none, some (.aload_n 0, 0, 0, 0, 0), some (.iconst (-1), 0, 0, 0, 0), some (.invokevirtual 103, 123, 0, 2, 129), none, none, some (.ireturn, 0, 0, 0, 0), some (.aload_n 0, 0, 0, 0, 0), some (.getfield 19, 11, 4, 0, 142), none, none, some (.iload_n 1, 0, 0, 0, 0), some (.iload_n 2, 0, 0, 0, 0), some (.iconst (-1), 0, 0, 0, 0), some (.if_icmp .ne 7, 40, 0, 0, 0), none, none, some (.iconst 0, 0, 0, 0, 0), some (.goto 4, 41, 0, 0, 0), none, none, some (.iconst 2, 0, 0, 0, 0), some (.iastore, 0, 0, 0, 0), some (.aload_n 0, 0, 0, 0, 0), some (.getfield 28, 11, 7, 0, 145), none, none, some (.iload_n 1, 0, 0, 0, 0), some (.iload_n 2, 0, 0, 0, 0), some (.iastore, 0, 0, 0, 0), some (.iload_n 2, 0, 0, 0, 0), some (.iconst (-1), 0, 0, 0, 0), some (.if_icmp .ne 7, 58, 0, 0, 0), none, none, some (.iconst 0, 0, 0, 0, 0), some (.goto 4, 59, 0, 0, 0), none, none, some (.iconst 1, 0, 0, 0, 0), some (.ireturn, 0, 0, 0, 0)]
def zC_141 : List (Option zE) := [some (.iload_n 1, 0, 0, 0, 0), some (.invokestatic 115, 125, 1, 1, 132), none, none, some (.ifCond .eq 12, 16, 0, 0, 0), none, none, some (.aload_n 0, 0, 0, 0, 0), some (.getfield 19, 11, 4, 0, 142), none, none, some (.iload_n 1, 0, 0, 0, 0), some (.iaload, 0, 0, 0, 0), some (.ifCond .ne 5, 18, 0, 0, 0), none, none, some (.iconst (-1), 0, 0, 0, 0), some (.ireturn, 0, 0, 0, 0), some (.aload_n 0, 0, 0, 0, 0), some (.getfield 19, 11, 4, 0, 142), none, none, some (.iload_n 1, 0, 0, 0, 0), some (.iaload, 0, 0, 0, 0), some (.iconst 1, 0, 0, 0, 0), some (.if_icmp .ne 15, 40, 0, 0, 0), none, none, some (.bipush 100, 0, 0, 0, 0), none, some (.aload_n 0, 0, 0, 0, 0), some (.getfield 22, 11, 5, 0, 143), none, none, some (.iload_n 1, 0, 0, 0, 0), some (.iaload, 0, 0, 0, 0), some (.iadd, 0, 0, 0, 0), some (.goto 9, 46, 0, 0, 0), none, none, some (.aload_n 0, 0, 0, 0, 0), some (.getfield 28, 11, 7, 0, 145), none, none, some (.iload_n 1, 0, 0, 0, 0), some (.iaload, 0, 0, 0, 0), some (.ireturn, 0, 0, 0, 0)]
def zC_142 : List (Option zE) := [some (.iload_n 1, 0, 0, 0, 0), some (.invokestatic 115, 125, 1, 1, 132), none, none, some (.ifCond .eq 12, 16, 0, 0, 0), none, none, some (.iload_n 2, 0, 0, 0, 0), some (.ifCond .lt 8, 16, 0, 0, 0), none, none, some (.iload_n 2, 0, 0, 0, 0), some (.iconst 2, 0, 0, 0, 0), some (.if_icmp .le 9, 22, 0, 0, 0), none, none, some (.aload_n 0, 0, 0, 0, 0), some (.iconst (-1), 0, 0, 0, 0), some (.invokevirtual 103, 123, 0, 2, 129), none, none, some (.ireturn, 0, 0, 0, 0), some (.aload_n 0, 0, 0, 0, 0), some (.getfield 19, 11, 4, 0, 142), none, none, some (.iload_n 1, 0, 0, 0, 0), some (.iaload, 0, 0, 0, 0), some (.iconst 1, 0, 0, 0, 0), some (.if_icmp .eq 36, 65, 0, 0, 0), none, none, some (.aload_n 0, 0, 0, 0, 0), some (.getfield 19, 11, 4, 0, 142), none, none, some (.iload_n 1, 0, 0, 0, 0), some (.iaload, 0, 0, 0, 0), some (.iconst 2, 0, 0, 0, 0), some (.if_icmp .ne 33, 72, 0, 0, 0), none, none, some (.iload_n 2, 0, 0, 0, 0), some (.ifCond .eq 29, 72, 0, 0, 0), none, none, some (.aload_n 0, 0, 0, 0, 0), some (.getfield 7, 11, 0, 0, 139), none, none, some (.sipush 448, 0, 0, 0, 0), none, none, some (.aload_n 0, 0, 0, 0, 0), some (.getfield 28, 11, 7, 0, 145), none, none, some (.iload_n 1, 0, 0, 0, 0), some (.iaload, 0, 0, 0, 0), some (.iadd, 0, 0, 0, 0), some (.iaload, 0, 0, 0, 0), some (.iload_n 2, 0, 0, 0, 0), some (.if_icmp .eq 10, 72, 0, 0, 0), none, none, some (.aload_n 0, 0, 0, 0, 0), some (.bipush (-2), 0, 0, 0, 0), none, some (.invokevirtual 103, 123, 0, 2, 129), none, none, some (.ireturn, 0, 0, 0, 0), some (.aload_n 0, 0, 0, 0, 0), some (.getfield 19, 11, 4, 0, 142), none, none, some (.iload_n 1, 0, 0, 0, 0), some (.iaload, 0, 0, 0, 0), some (.ifCond .ne 10, 88, 0, 0, 0), none, none, some (.aload_n 0, 0, 0, 0, 0), some (.bipush (-3), 0, 0, 0, 0), none, some (.invokevirtual 103, 123, 0, 2, 129), none, none, some (.ireturn, 0, 0, 0, 0), some (.aload_n 0, 0, 0, 0, 0), some (.getfield 7, 11, 0, 0, 139), none, none, some (.iload_n 2, 0, 0, 0, 0), some (.ifCond .ne 9, 102, 0, 0, 0), none, none, some (.sipush 520, 0, 0, 0, 0), none, none, some (.goto 17, 116, 0, 0, 0), none, none, some (.iload_n 2, 0, 0, 0, 0), some (.iconst 1, 0, 0, 0, 0), some (.if_icmp .ne 9, 113, 0, 0, 0), none, none, some (.sipush 532, 0, 0, 0, 0), none, none, some (.goto 6, 116, 0, 0, 0), none, none, some (.sipush 544, 0, 0, 0, 0), none, none, some (.aload_n 0, 0, 0, 0, 0), some (.getfield 28, 11, 7, 0, 145), none, none, some (.iload_n 1, 0, 0, 0, 0), some (.iaload, 0, 0, 0, 0), some (.iadd, 0, 0, 0, 0), some (.iaload, 0, 0, 0, 0), some (.ireturn, 0, 0, 0, 0)]
def zC_143 : List (Option zE) := [some (.iload_n 1, 0, 0, 0, 0), some (.invokestatic 115, 125, 1, 1, 132), none, none, some (.ifCond .ne 7, 11, 0, 0, 0), none, none, some (.iconst (-1), 0, 0, 0, 0), some (.goto 33, 41, 0, 0, 0), none, none, some (.aload_n 0, 0, 0, 0, 0), some (.getfield 19, 11, 4, 0, 142), none, none, some (.iload_n 1, 0, 0, 0, 0), some (.iaload, 0, 0, 0, 0), some (.iconst 2, 0, 0, 0, 0), some (.if_icmp .ne 8, 26, 0, 0, 0), none, none, some (.bipush (-2), 0, 0, 0, 0), none, some (.goto 18, 41, 0, 0, 0), none, none, some (.aload_n 0, 0, 0, 0, 0), some (.getfield 19, 11, 4, 0, 142), none, none, some (.iload_n 1, 0, 0, 0, 0), some (.iaload, 0, 0, 0, 0), some (.ifCond .ne 8, 40, 0, 0, 0), none, none, some (.bipush (-3), 0, 0, 0, 0), none, some (.goto 4, 41, 0, 0, 0), none, none, some (.iconst 0, 0, 0, 0, 0), some (.ireturn, 0, 0, 0, 0)]
def zC_144_0 : List (Option zE) := [some (.aload_n 0, 0, 0, 0, 0), some (.iload_n 1, 0, 0, 0, 0), some (.invokevirtual 121, 143, 0, 2, 134), none, none, some (.istore_n 3, 0, 0, 0, 0), some (.iload_n 3, 0, 0, 0, 0), some (.ifCond .eq 9, 16, 0, 0, 0), none, none, some (.aload_n 0, 0, 0, 0, 0), some (.iload_n 3, 0, 0, 0, 0), some (.invokevirtual 103, 123, 0, 2, 129), none, none, some (.ireturn, 0, 0, 0, 0), some (.iload_n 2, 0, 0, 0, 0), some (.ifCond .eq 9, 26, 0, 0, 0), none, none, some (.sipush 352, 0, 0, 0, 0), none, none, some (.goto 6, 29, 0, 0, 0), none, none, some (.sipush 256, 0, 0, 0, 0), none, none, some (.istore 4, 0, 0, 0, 0), none, some (.aload_n 0, 0, 0, 0, 0), some (.getfield 7, 11, 0, 0, 139), none, none, some (.iload_n 2, 0, 0, 0, 0), some (.ifCond .eq 9, 45, 0, 0, 0), none, none, some (.sipush 636, 0, 0, 0, 0), none, none, some (.goto 6, 48, 0, 0, 0), none, none, some (.sipush 635, 0, 0, 0, 0), none, none, some (.aload_n 0, 0, 0, 0, 0), some (.getfield 25, 11, 6, 0, 144), none, none, some (.iload_n 1, 0, 0, 0, 0), some (.iaload, 0, 0, 0, 0), some (.iastore, 0, 0, 0, 0), some (.iconst 0, 0, 0, 0, 0), some (.istore 5, 0, 0, 0, 0), none, some (.iload 5, 0, 0, 0, 0), none, some (.aload_n 0, 0, 0, 0, 0), some (.getfield 25, 11, 6, 0, 144), none, none, some (.iload_n 1, 0, 0, 0, 0), some (.iaload, 0, 0, 0, 0), some (.if_icmp .ge 141, 207, 0, 0, 0), none, none, some (.aload_n 0, 0, 0, 0, 0), some (.getfield 31, 11, 8, 0, 146), none, none, some (.bipush 96, 0, 0, 0, 0), none, some (.iload_n 1, 0, 0, 0, 0), some (.imul, 0, 0, 0, 0), some (.iload 5, 0, 0, 0, 0), none, some (.iadd, 0, 0, 0, 0), some (.laload, 0, 0, 0, 0), some (.lstore 6, 0, 0, 0, 0), none, some (.lload 6, 0, 0, 0, 0), none, some (.aload_n 0, 0, 0, 0, 0), some (.getfield 22, 11, 5, 0, 143), none, none, some (.iload_n 1, 0, 0, 0, 0), some (.iaload, 0, 0, 0, 0), some (.ifCond .ne 9, 100, 0, 0, 0), none, none, some (.ldc2_w 124, 0, 0, -128, 5), none, none, some (.goto 38, 135, 0, 0, 0), none, none, some (.aload_n 0, 0, 0, 0, 0), some (.getfield 22, 11, 5, 0, 143), none, none, some (.iload_n 1, 0, 0, 0, 0), some (.iaload, 0, 0, 0, 0), some (.iconst 1, 0, 0, 0, 0), some (.if_icmp .ne 9, 116, 0, 0, 0), none, none, some (.ldc2_w 126, 0, 0, -32768, 6), none, none, some (.goto 22, 135, 0, 0, 0), none, none, some (.aload_n 0, 0, 0, 0, 0), some (.getfield 22, 11, 5, 0, 143), none, none, some (.iload_n 1, 0, 0, 0, 0), some (.iaload, 0, 0, 0, 0), some (.iconst 2, 0, 0, 0, 0), some (.if_icmp .ne 9, 132, 0, 0, 0), none, none, some (.ldc2_w 128, 0, 0, -2147483648, 7), none, none, some (.goto 6, 135, 0, 0, 0), none, none, some (.ldc2_w 132, 0, 0, -9223372036854775808, 8), none, none, some (.lcmp, 0, 0, 0, 0), some (.ifCond .ne 7, 143, 0, 0, 0), none, none, some (.iconst 1, 0, 0, 0, 0), some (.goto 4, 144, 0, 0, 0), none, none, some (.iconst 0, 0, 0, 0, 0), some (.istore 8, 0, 0, 0, 0), none, some (.lload 6, 0, 0, 0, 0), none, some (.l2i, 0, 0, 0, 0), some (.istore 9, 0, 0, 0, 0)]
def zC_144_1 : List (Option zE) := [none, some (.aload_n 0, 0, 0, 0, 0), some (.getfield 7, 11, 0, 0, 139), none, none, some (.iload 4, 0, 0, 0, 0), none, some (.iload 5, 0, 0, 0, 0), none, some (.iadd, 0, 0, 0, 0), some (.iload 8, 0, 0, 0, 0), none, some (.ifCond .eq 8, 170, 0, 0, 0), none, none, some (.bipush 30, 0, 0, 0, 0), none, some (.goto 33, 200, 0, 0, 0), none, none, some (.iload 9, 0, 0, 0, 0), none, some (.sipush (-300), 0, 0, 0, 0), none, none, some (.if_icmp .ge 9, 184, 0, 0, 0), none, none, some (.sipush (-300), 0, 0, 0, 0), none, none, some (.goto 19, 200, 0, 0, 0), none, none, some (.iload 9, 0, 0, 0, 0), none, some (.sipush 300, 0, 0, 0, 0), none, none, some (.if_icmp .le 9, 198, 0, 0, 0), none, none, some (.sipush 300, 0, 0, 0, 0), none, none, some (.goto 5, 200, 0, 0, 0), none, none, some (.iload 9, 0, 0, 0, 0), none, some (.iastore, 0, 0, 0, 0), some (.iinc 5 1, 0, 0, 0, 0), none, none, some (.goto (-146), 58, 0, 0, 0), none, none, some (.aload_n 0, 0, 0, 0, 0), some (.getfield 25, 11, 6, 0, 144), none, none, some (.iload_n 1, 0, 0, 0, 0), some (.iaload, 0, 0, 0, 0), some (.ireturn, 0, 0, 0, 0)]
def zC_144 : List (Option zE) := zC_144_0 ++ (zC_144_1)
def zC_145 : List (Option zE) := [some (.aload_n 0, 0, 0, 0, 0), some (.getfield 7, 11, 0, 0, 139), none, none, some (.iload_n 2, 0, 0, 0, 0), some (.ifCond .eq 9, 14, 0, 0, 0), none, none, some (.sipush 636, 0, 0, 0, 0), none, none, some (.goto 6, 17, 0, 0, 0), none, none, some (.sipush 635, 0, 0, 0, 0), none, none, some (.iaload, 0, 0, 0, 0), some (.istore_n 3, 0, 0, 0, 0), some (.iload_n 3, 0, 0, 0, 0), some (.ifCond .ne 7, 27, 0, 0, 0), none, none, some (.iconst 0, 0, 0, 0, 0), some (.goto 25, 49, 0, 0, 0), none, none, some (.aload_n 0, 0, 0, 0, 0), some (.getfield 7, 11, 0, 0, 139), none, none, some (.iload_n 2, 0, 0, 0, 0), some (.ifCond .eq 9, 41, 0, 0, 0), none, none, some (.sipush 352, 0, 0, 0, 0), none, none, some (.goto 6, 44, 0, 0, 0), none, none, some (.sipush 256, 0, 0, 0, 0), none, none, some (.iload_n 1, 0, 0, 0, 0), some (.iload_n 3, 0, 0, 0, 0), some (.irem, 0, 0, 0, 0), some (.iadd, 0, 0, 0, 0), some (.iaload, 0, 0, 0, 0), some (.ireturn, 0, 0, 0, 0)]
def zC_146 : List (Option zE) := [some (.iload_n 1, 0, 0, 0, 0), some (.ifCond .ge 9, 10, 0, 0, 0), none, none, some (.sipush 1000, 0, 0, 0, 0), none, none, some (.goto 9, 16, 0, 0, 0), none, none, some (.aload_n 0, 0, 0, 0, 0), some (.iload_n 1, 0, 0, 0, 0), some (.iload_n 2, 0, 0, 0, 0), some (.invokevirtual 134, 145, 0, 3, 135), none, none, some (.ireturn, 0, 0, 0, 0)]
def zC_147 : List (Option zE) := [some (.iload_n 1, 0, 0, 0, 0), some (.ifCond .lt 48, 49, 0, 0, 0), none, none, some (.iload_n 1, 0, 0, 0, 0), some (.iconst 2, 0, 0, 0, 0), some (.if_icmp .gt 43, 49, 0, 0, 0), none, none, some (.iload_n 2, 0, 0, 0, 0), some (.iload_n 1, 0, 0, 0, 0), some (.iconst 1, 0, 0, 0, 0), some (.if_icmp .ne 7, 19, 0, 0, 0), none, none, some (.iconst 1, 0, 0, 0, 0), some (.goto 4, 20, 0, 0, 0), none, none, some (.iconst 0, 0, 0, 0, 0), some (.if_icmp .lt 29, 49, 0, 0, 0), none, none, some (.iload_n 2, 0, 0, 0, 0), some (.iload_n 1, 0, 0, 0, 0), some (.ifCond .ne 8, 33, 0, 0, 0), none, none, some (.bipush 99, 0, 0, 0, 0), none, some (.goto 16, 46, 0, 0, 0), none, none, some (.iload_n 1, 0, 0, 0, 0), some (.iconst 1, 0, 0, 0, 0), some (.if_icmp .ne 8, 43, 0, 0, 0), none, none, some (.bipush 9, 0, 0, 0, 0), none, some (.goto 6, 46, 0, 0, 0), none, none, some (.sipush 9999, 0, 0, 0, 0), none, none, some (.if_icmp .le 10, 56, 0, 0, 0), none, none, some (.aload_n 0, 0, 0, 0, 0), some (.bipush (-6), 0, 0, 0, 0), none, some (.invokevirtual 103, 123, 0, 2, 129), none, none, some (.ireturn, 0, 0, 0, 0), some (.aload_n 0, 0, 0, 0, 0), some (.getfield 7, 11, 0, 0, 139), none, none, some (.sipush 637, 0, 0, 0, 0), none, none, some (.iload_n 1, 0, 0, 0, 0), some (.iadd, 0, 0, 0, 0), some (.iaload, 0, 0, 0, 0), some (.istore_n 3, 0, 0, 0, 0), some (.aload_n 0, 0, 0, 0, 0), some (.getfield 7, 11, 0, 0, 139), none, none, some (.sipush 637, 0, 0, 0, 0), none, none, some (.iload_n 1, 0, 0, 0, 0), some (.iadd, 0, 0, 0, 0), some (.iload_n 2, 0, 0, 0, 0), some (.iastore, 0, 0, 0, 0), some (.iload_n 3, 0, 0, 0, 0), some (.ireturn, 0, 0, 0, 0)]
def zC_148 : List (Option zE) := [some (.aload_n 0, 0, 0, 0, 0), some (.getfield 137, 11, 19, 0, 168), none, none, some (.aload_n 0, 0, 0, 0, 0), some (.getfield 140, 11, 20, 0, 169), none, none, some (.if_icmp .ge 21, 29, 0, 0, 0), none, none, some (.aload_n 0, 0, 0, 0, 0), some (.getfield 31, 11, 8, 0, 146), none, none, some (.aload_n 0, 0, 0, 0, 0), some (.getfield 143, 11, 21, 0, 170), none, none, some (.aload_n 0, 0, 0, 0, 0), some (.getfield 137, 11, 19, 0, 168), none, none, some (.iadd, 0, 0, 0, 0), some (.laload, 0, 0, 0, 0), some (.l2i, 0, 0, 0, 0), some (.goto 4, 30, 0, 0, 0), none, none, some (.iconst (-1), 0, 0, 0, 0), some (.ireturn, 0, 0, 0, 0)]
def zC_149 : List (Option zE) := [some (.aload_n 0, 0, 0, 0, 0), some (.getfield 137, 11, 19, 0, 168), none, none, some (.aload_n 0, 0, 0, 0, 0), some (.getfield 140, 11, 20, 0, 169), none, none, some (.if_icmp .ge 15, 23, 0, 0, 0), none, none, some (.aload_n 0, 0, 0, 0, 0), some (.invokevirtual 146, 148, 0, 1, 136), none, none, some (.iload_n 1, 0, 0, 0, 0), some (.if_icmp .ne 7, 23, 0, 0, 0), none, none, some (.iconst 1, 0, 0, 0, 0), some (.goto 4, 24, 0, 0, 0), none, none, some (.iconst 0, 0, 0, 0, 0), some (.ireturn, 0, 0, 0, 0)]
def zC_150_0 : List (Option zE) := [some (.aload_n 0, 0, 0, 0, 0), some (.bipush 102, 0, 0, 0, 0), none, some (.invokevirtual 150, 149, 0, 2, 137), none, none, some (.ifCond .ne 50, 56, 0, 0, 0), none, none, some (.aload_n 0, 0, 0, 0, 0), some (.bipush 115, 0, 0, 0, 0), none, some (.invokevirtual 150, 149, 0, 2, 137), none, none, some (.ifCond .ne 41, 56, 0, 0, 0), none, none, some (.aload_n 0, 0, 0, 0, 0), some (.bipush 108, 0, 0, 0, 0), none, some (.invokevirtual 150, 149, 0, 2, 137), none, none, some (.ifCond .ne 32, 56, 0, 0, 0), none, none, some (.aload_n 0, 0, 0, 0, 0), some (.bipush 104, 0, 0, 0, 0), none, some (.invokevirtual 150, 149, 0, 2, 137), none, none, some (.ifCond .ne 23, 56, 0, 0, 0), none, none, some (.aload_n 0, 0, 0, 0, 0), some (.bipush 119, 0, 0, 0, 0), none, some (.invokevirtual 150, 149, 0, 2, 137), none, none, some (.ifCond .ne 14, 56, 0, 0, 0), none, none, some (.aload_n 0, 0, 0, 0, 0), some (.bipush 100, 0, 0, 0, 0), none, some (.invokevirtual 150, 149, 0, 2, 137), none, none, some (.ifCond .ne 5, 56, 0, 0, 0), none, none, some (.iconst 0, 0, 0, 0, 0), some (.ireturn, 0, 0, 0, 0), some (.bipush 50, 0, 0, 0, 0), none, some (.iload_n 1, 0, 0, 0, 0), some (.imul, 0, 0, 0, 0), some (.aload_n 0, 0, 0, 0, 0), some (.getfield 153, 11, 23, 0, 171), none, none, some (.iadd, 0, 0, 0, 0), some (.istore_n 2, 0, 0, 0, 0), some (.aload_n 0, 0, 0, 0, 0), some (.getfield 47, 11, 13, 0, 151), none, none, some (.iload_n 2, 0, 0, 0, 0), some (.aload_n 0, 0, 0, 0, 0), some (.invokevirtual 146, 148, 0, 1, 136), none, none, some (.iastore, 0, 0, 0, 0), some (.aload_n 0, 0, 0, 0, 0), some (.dup, 0, 0, 0, 0), some (.getfield 137, 11, 19, 0, 168), none, none, some (.iconst 1, 0, 0, 0, 0), some (.iadd, 0, 0, 0, 0), some (.putfield 137, 11, 19, 0, 168), none, none, some (.aload_n 0, 0, 0, 0, 0), some (.bipush 60, 0, 0, 0, 0), none, some (.invokevirtual 150, 149, 0, 2, 137), none, none, some (.ifCond .ne 23, 115, 0, 0, 0), none, none, some (.aload_n 0, 0, 0, 0, 0), some (.bipush 62, 0, 0, 0, 0), none, some (.invokevirtual 150, 149, 0, 2, 137), none, none, some (.ifCond .ne 14, 115, 0, 0, 0), none, none, some (.aload_n 0, 0, 0, 0, 0), some (.bipush 61, 0, 0, 0, 0), none, some (.invokevirtual 150, 149, 0, 2, 137), none, none, some (.ifCond .ne 5, 115, 0, 0, 0), none, none, some (.iconst 0, 0, 0, 0, 0), some (.ireturn, 0, 0, 0, 0), some (.aload_n 0, 0, 0, 0, 0), some (.getfield 50, 11, 14, 0, 152), none, none, some (.iload_n 2, 0, 0, 0, 0), some (.aload_n 0, 0, 0, 0, 0), some (.invokevirtual 146, 148, 0, 1, 136), none, none, some (.iastore, 0, 0, 0, 0), some (.aload_n 0, 0, 0, 0, 0), some (.dup, 0, 0, 0, 0), some (.getfield 137, 11, 19, 0, 168), none, none, some (.iconst 1, 0, 0, 0, 0), some (.iadd, 0, 0, 0, 0), some (.putfield 137, 11, 19, 0, 168), none, none, some (.iconst 0, 0, 0, 0, 0), some (.istore_n 3, 0, 0, 0, 0), some (.iconst 0, 0, 0, 0, 0), some (.istore 4, 0, 0, 0, 0), none, some (.aload_n 0, 0, 0, 0, 0), some (.getfield 137, 11, 19, 0, 168), none, none, some (.aload_n 0, 0, 0, 0, 0), some (.getfield 140, 11, 20, 0, 169), none, none, some (.if_icmp .ge 65, 213, 0, 0, 0), none]
def zC_150_1 : List (Option zE) := [none, some (.aload_n 0, 0, 0, 0, 0), some (.invokevirtual 146, 148, 0, 1, 136), none, none, some (.bipush 48, 0, 0, 0, 0), none, some (.if_icmp .lt 56, 213, 0, 0, 0), none, none, some (.aload_n 0, 0, 0, 0, 0), some (.invokevirtual 146, 148, 0, 1, 136), none, none, some (.bipush 57, 0, 0, 0, 0), none, some (.if_icmp .gt 47, 213, 0, 0, 0), none, none, some (.iload 4, 0, 0, 0, 0), none, some (.iconst 3, 0, 0, 0, 0), some (.if_icmp .ge 41, 213, 0, 0, 0), none, none, some (.iload 4, 0, 0, 0, 0), none, some (.ifCond .le 7, 184, 0, 0, 0), none, none, some (.iload_n 3, 0, 0, 0, 0), some (.ifCond .eq 32, 213, 0, 0, 0), none, none, some (.bipush 10, 0, 0, 0, 0), none, some (.iload_n 3, 0, 0, 0, 0), some (.imul, 0, 0, 0, 0), some (.aload_n 0, 0, 0, 0, 0), some (.invokevirtual 146, 148, 0, 1, 136), none, none, some (.iadd, 0, 0, 0, 0), some (.bipush 48, 0, 0, 0, 0), none, some (.isub, 0, 0, 0, 0), some (.istore_n 3, 0, 0, 0, 0), some (.iinc 4 1, 0, 0, 0, 0), none, none, some (.aload_n 0, 0, 0, 0, 0), some (.dup, 0, 0, 0, 0), some (.getfield 137, 11, 19, 0, 168), none, none, some (.iconst 1, 0, 0, 0, 0), some (.iadd, 0, 0, 0, 0), some (.putfield 137, 11, 19, 0, 168), none, none, some (.goto (-70), 140, 0, 0, 0), none, none, some (.iload 4, 0, 0, 0, 0), none, some (.ifCond .ne 5, 220, 0, 0, 0), none, none, some (.iconst 0, 0, 0, 0, 0), some (.ireturn, 0, 0, 0, 0), some (.aload_n 0, 0, 0, 0, 0), some (.getfield 53, 11, 15, 0, 153), none, none, some (.iload_n 2, 0, 0, 0, 0), some (.iload_n 3, 0, 0, 0, 0), some (.iastore, 0, 0, 0, 0), some (.aload_n 0, 0, 0, 0, 0), some (.dup, 0, 0, 0, 0), some (.getfield 153, 11, 23, 0, 171), none, none, some (.iconst 1, 0, 0, 0, 0), some (.iadd, 0, 0, 0, 0), some (.putfield 153, 11, 23, 0, 171), none, none, some (.iconst 1, 0, 0, 0, 0), some (.ireturn, 0, 0, 0, 0)]
def zC_150 : List (Option zE) := zC_150_0 ++ (zC_150_1)
def zC_151 : List (Option zE) := [some (.aload_n 0, 0, 0, 0, 0), some (.getfield 44, 11, 12, 0, 150), none, none, some (.bipush 120, 0, 0, 0, 0), none, some (.iload_n 1, 0, 0, 0, 0), some (.imul, 0, 0, 0, 0), some (.aload_n 0, 0, 0, 0, 0), some (.dup, 0, 0, 0, 0), some (.getfield 156, 11, 22, 0, 172), none, none, some (.dup_x1, 0, 0, 0, 0), some (.iconst 1, 0, 0, 0, 0), some (.iadd, 0, 0, 0, 0), some (.putfield 156, 11, 22, 0, 172), none, none, some (.iadd, 0, 0, 0, 0), some (.iload_n 2, 0, 0, 0, 0), some (.iastore, 0, 0, 0, 0), some (.return_, 0, 0, 0, 0)]
def zC_152 : List (Option zE) := [some (.aload_n 0, 0, 0, 0, 0), some (.getfield 159, 11, 24, 0, 173), none, none, some (.ifCond .le 48, 52, 0, 0, 0), none, none, some (.aload_n 0, 0, 0, 0, 0), some (.getfield 63, 11, 18, 0, 156), none, none, some (.aload_n 0, 0, 0, 0, 0), some (.getfield 159, 11, 24, 0, 173), none, none, some (.iconst 1, 0, 0, 0, 0), some (.isub, 0, 0, 0, 0), some (.iaload, 0, 0, 0, 0), some (.bipush 33, 0, 0, 0, 0), none, some (.if_icmp .ne 32, 52, 0, 0, 0), none, none, some (.aload_n 0, 0, 0, 0, 0), some (.dup, 0, 0, 0, 0), some (.getfield 159, 11, 24, 0, 173), none, none, some (.iconst 1, 0, 0, 0, 0), some (.isub, 0, 0, 0, 0), some (.putfield 159, 11, 24, 0, 173), none, none, some (.aload_n 0, 0, 0, 0, 0), some (.dup, 0, 0, 0, 0), some (.getfield 162, 11, 25, 0, 174), none, none, some (.iconst 1, 0, 0, 0, 0), some (.isub, 0, 0, 0, 0), some (.putfield 162, 11, 25, 0, 174), none, none, some (.aload_n 0, 0, 0, 0, 0), some (.iload_n 1, 0, 0, 0, 0), some (.iconst (-1), 0, 0, 0, 0), some (.invokevirtual 165, 151, 0, 3, 138), none, none, some (.goto (-49), 0, 0, 0, 0), none, none, some (.return_, 0, 0, 0, 0)]
def zC_153 : List (Option zE) := [some (.aload_n 0, 0, 0, 0, 0), some (.getfield 159, 11, 24, 0, 173), none, none, some (.ifCond .le 78, 82, 0, 0, 0), none, none, some (.aload_n 0, 0, 0, 0, 0), some (.getfield 63, 11, 18, 0, 156), none, none, some (.aload_n 0, 0, 0, 0, 0), some (.getfield 159, 11, 24, 0, 173), none, none, some (.iconst 1, 0, 0, 0, 0), some (.isub, 0, 0, 0, 0), some (.iaload, 0, 0, 0, 0), some (.bipush 38, 0, 0, 0, 0), none, some (.if_icmp .eq 23, 43, 0, 0, 0), none, none, some (.aload_n 0, 0, 0, 0, 0), some (.getfield 63, 11, 18, 0, 156), none, none, some (.aload_n 0, 0, 0, 0, 0), some (.getfield 159, 11, 24, 0, 173), none, none, some (.iconst 1, 0, 0, 0, 0), some (.isub, 0, 0, 0, 0), some (.iaload, 0, 0, 0, 0), some (.bipush 124, 0, 0, 0, 0), none, some (.if_icmp .ne 46, 82, 0, 0, 0), none, none, some (.iload_n 2, 0, 0, 0, 0), some (.ifCond .ne 42, 82, 0, 0, 0), none, none, some (.aload_n 0, 0, 0, 0, 0), some (.dup, 0, 0, 0, 0), some (.getfield 159, 11, 24, 0, 173), none, none, some (.iconst 1, 0, 0, 0, 0), some (.isub, 0, 0, 0, 0), some (.putfield 159, 11, 24, 0, 173), none, none, some (.aload_n 0, 0, 0, 0, 0), some (.iload_n 1, 0, 0, 0, 0), some (.aload_n 0, 0, 0, 0, 0), some (.getfield 63, 11, 18, 0, 156), none, none, some (.aload_n 0, 0, 0, 0, 0), some (.getfield 159, 11, 24, 0, 173), none, none, some (.iaload, 0, 0, 0, 0), some (.bipush 38, 0, 0, 0, 0), none, some (.if_icmp .ne 8, 74, 0, 0, 0), none, none, some (.bipush (-2), 0, 0, 0, 0), none, some (.goto 5, 76, 0, 0, 0), none, none, some (.bipush (-3), 0, 0, 0, 0), none, some (.invokevirtual 165, 151, 0, 3, 138), none, none, some (.goto (-79), 0, 0, 0, 0), none, none, some (.return_, 0, 0, 0, 0)]
def zC_154_0 : List (Option zE) := [some (.aload_n 0, 0, 0, 0, 0), some (.bipush 96, 0, 0, 0, 0), none, some (.iload_n 1, 0, 0, 0, 0), some (.imul, 0, 0, 0, 0), some (.putfield 143, 11, 21, 0, 170), none, none, some (.aload_n 0, 0, 0, 0, 0), some (.aload_n 0, 0, 0, 0, 0), some (.getfield 25, 11, 6, 0, 144), none, none, some (.iload_n 1, 0, 0, 0, 0), some (.iaload, 0, 0, 0, 0), some (.putfield 140, 11, 20, 0, 169), none, none, some (.aload_n 0, 0, 0, 0, 0), some (.iconst 0, 0, 0, 0, 0), some (.putfield 137, 11, 19, 0, 168), none, none, some (.aload_n 0, 0, 0, 0, 0), some (.iconst 0, 0, 0, 0, 0), some (.putfield 156, 11, 22, 0, 172), none, none, some (.aload_n 0, 0, 0, 0, 0), some (.iconst 0, 0, 0, 0, 0), some (.putfield 153, 11, 23, 0, 171), none, none, some (.aload_n 0, 0, 0, 0, 0), some (.iconst 0, 0, 0, 0, 0), some (.putfield 159, 11, 24, 0, 173), none, none, some (.aload_n 0, 0, 0, 0, 0), some (.iconst 0, 0, 0, 0, 0), some (.putfield 162, 11, 25, 0, 174), none, none, some (.aload_n 0, 0, 0, 0, 0), some (.bipush 103, 0, 0, 0, 0), none, some (.invokevirtual 150, 149, 0, 2, 137), none, none, some (.ifCond .ne 8, 57, 0, 0, 0), none, none, some (.aload_n 0, 0, 0, 0, 0), some (.getfield 137, 11, 19, 0, 168), none, none, some (.ireturn, 0, 0, 0, 0), some (.aload_n 0, 0, 0, 0, 0), some (.dup, 0, 0, 0, 0), some (.getfield 137, 11, 19, 0, 168), none, none, some (.iconst 1, 0, 0, 0, 0), some (.iadd, 0, 0, 0, 0), some (.putfield 137, 11, 19, 0, 168), none, none, some (.aload_n 0, 0, 0, 0, 0), some (.getfield 137, 11, 19, 0, 168), none, none, some (.aload_n 0, 0, 0, 0, 0), some (.getfield 140, 11, 20, 0, 169), none, none, some (.if_icmp .eq 21, 96, 0, 0, 0), none, none, some (.aload_n 0, 0, 0, 0, 0), some (.invokevirtual 146, 148, 0, 1, 136), none, none, some (.bipush 48, 0, 0, 0, 0), none, some (.if_icmp .lt 12, 96, 0, 0, 0), none, none, some (.aload_n 0, 0, 0, 0, 0), some (.invokevirtual 146, 148, 0, 1, 136), none, none, some (.bipush 50, 0, 0, 0, 0), none, some (.if_icmp .le 8, 101, 0, 0, 0), none, none, some (.aload_n 0, 0, 0, 0, 0), some (.getfield 137, 11, 19, 0, 168), none, none, some (.ireturn, 0, 0, 0, 0), some (.aload_n 0, 0, 0, 0, 0), some (.getfield 38, 11, 10, 0, 148), none, none, some (.iload_n 2, 0, 0, 0, 0), some (.aload_n 0, 0, 0, 0, 0), some (.invokevirtual 146, 148, 0, 1, 136), none, none, some (.bipush 48, 0, 0, 0, 0), none, some (.isub, 0, 0, 0, 0), some (.iastore, 0, 0, 0, 0), some (.aload_n 0, 0, 0, 0, 0), some (.dup, 0, 0, 0, 0), some (.getfield 137, 11, 19, 0, 168), none, none, some (.iconst 1, 0, 0, 0, 0), some (.iadd, 0, 0, 0, 0), some (.putfield 137, 11, 19, 0, 168), none, none, some (.aload_n 0, 0, 0, 0, 0), some (.bipush 58, 0, 0, 0, 0), none, some (.invokevirtual 150, 149, 0, 2, 137), none, none, some (.ifCond .ne 8, 138, 0, 0, 0), none, none, some (.aload_n 0, 0, 0, 0, 0), some (.getfield 137, 11, 19, 0, 168), none, none, some (.ireturn, 0, 0, 0, 0), some (.aload_n 0, 0, 0, 0, 0), some (.dup, 0, 0, 0, 0), some (.getfield 137, 11, 19, 0, 168), none, none, some (.iconst 1, 0, 0, 0, 0), some (.iadd, 0, 0, 0, 0), some (.putfield 137, 11, 19, 0, 168), none, none, some (.iconst 0, 0, 0, 0, 0), some (.istore_n 3, 0, 0, 0, 0)]
def zC_154_1 : List (Option zE) := [some (.iconst 1, 0, 0, 0, 0), some (.istore 4, 0, 0, 0, 0), none, some (.aload_n 0, 0, 0, 0, 0), some (.getfield 137, 11, 19, 0, 168), none, none, some (.aload_n 0, 0, 0, 0, 0), some (.getfield 140, 11, 20, 0, 169), none, none, some (.if_icmp .ge 264, 425, 0, 0, 0), none, none, some (.aload_n 0, 0, 0, 0, 0), some (.invokevirtual 146, 148, 0, 1, 136), none, none, some (.istore 5, 0, 0, 0, 0), none, some (.iload 4, 0, 0, 0, 0), none, some (.ifCond .eq 82, 254, 0, 0, 0), none, none, some (.iload 5, 0, 0, 0, 0), none, some (.bipush 33, 0, 0, 0, 0), none, some (.if_icmp .eq 10, 189, 0, 0, 0), none, none, some (.iload 5, 0, 0, 0, 0), none, some (.bipush 40, 0, 0, 0, 0), none, some (.if_icmp .ne 68, 254, 0, 0, 0), none, none, some (.aload_n 0, 0, 0, 0, 0), some (.getfield 162, 11, 25, 0, 174), none, none, some (.bipush 20, 0, 0, 0, 0), none, some (.if_icmp .ne 8, 203, 0, 0, 0), none, none, some (.aload_n 0, 0, 0, 0, 0), some (.getfield 137, 11, 19, 0, 168), none, none, some (.ireturn, 0, 0, 0, 0), some (.aload_n 0, 0, 0, 0, 0), some (.dup, 0, 0, 0, 0), some (.getfield 162, 11, 25, 0, 174), none, none, some (.iconst 1, 0, 0, 0, 0), some (.iadd, 0, 0, 0, 0), some (.putfield 162, 11, 25, 0, 174), none, none, some (.aload_n 0, 0, 0, 0, 0), some (.getfield 63, 11, 18, 0, 156), none, none, some (.aload_n 0, 0, 0, 0, 0), some (.dup, 0, 0, 0, 0), some (.getfield 159, 11, 24, 0, 173), none, none, some (.dup_x1, 0, 0, 0, 0), some (.iconst 1, 0, 0, 0, 0), some (.iadd, 0, 0, 0, 0), some (.putfield 159, 11, 24, 0, 173), none, none, some (.iload 5, 0, 0, 0, 0), none, some (.iastore, 0, 0, 0, 0), some (.iload 5, 0, 0, 0, 0), none, some (.bipush 40, 0, 0, 0, 0), none, some (.if_icmp .ne 6, 241, 0, 0, 0), none, none, some (.iinc 3 1, 0, 0, 0, 0), none, none, some (.aload_n 0, 0, 0, 0, 0), some (.dup, 0, 0, 0, 0), some (.getfield 137, 11, 19, 0, 168), none, none, some (.iconst 1, 0, 0, 0, 0), some (.iadd, 0, 0, 0, 0), some (.putfield 137, 11, 19, 0, 168), none, none, some (.goto 171, 422, 0, 0, 0), none, none, some (.iload 4, 0, 0, 0, 0), none, some (.ifCond .eq 38, 294, 0, 0, 0), none, none, some (.aload_n 0, 0, 0, 0, 0), some (.iload_n 2, 0, 0, 0, 0), some (.invokevirtual 169, 150, 0, 2, 139), none, none, some (.ifCond .ne 8, 272, 0, 0, 0), none, none, some (.aload_n 0, 0, 0, 0, 0), some (.getfield 137, 11, 19, 0, 168), none, none, some (.ireturn, 0, 0, 0, 0), some (.aload_n 0, 0, 0, 0, 0), some (.iload_n 2, 0, 0, 0, 0), some (.aload_n 0, 0, 0, 0, 0), some (.getfield 153, 11, 23, 0, 171), none, none, some (.iconst 1, 0, 0, 0, 0), some (.isub, 0, 0, 0, 0), some (.invokevirtual 165, 151, 0, 3, 138), none, none, some (.aload_n 0, 0, 0, 0, 0), some (.iload_n 2, 0, 0, 0, 0), some (.invokevirtual 172, 152, 0, 2, 140), none, none, some (.iconst 0, 0, 0, 0, 0), some (.istore 4, 0, 0, 0, 0), none, some (.goto 131, 422, 0, 0, 0), none, none, some (.iload 5, 0, 0, 0, 0), none, some (.bipush 38, 0, 0, 0, 0), none, some (.if_icmp .eq 10, 308, 0, 0, 0), none]
def zC_154_2 : List (Option zE) := [none, some (.iload 5, 0, 0, 0, 0), none, some (.bipush 124, 0, 0, 0, 0), none, some (.if_icmp .ne 54, 359, 0, 0, 0), none, none, some (.aload_n 0, 0, 0, 0, 0), some (.iload_n 2, 0, 0, 0, 0), some (.iload 5, 0, 0, 0, 0), none, some (.bipush 38, 0, 0, 0, 0), none, some (.if_icmp .ne 7, 321, 0, 0, 0), none, none, some (.iconst 1, 0, 0, 0, 0), some (.goto 4, 322, 0, 0, 0), none, none, some (.iconst 0, 0, 0, 0, 0), some (.invokevirtual 176, 153, 0, 3, 141), none, none, some (.aload_n 0, 0, 0, 0, 0), some (.getfield 63, 11, 18, 0, 156), none, none, some (.aload_n 0, 0, 0, 0, 0), some (.dup, 0, 0, 0, 0), some (.getfield 159, 11, 24, 0, 173), none, none, some (.dup_x1, 0, 0, 0, 0), some (.iconst 1, 0, 0, 0, 0), some (.iadd, 0, 0, 0, 0), some (.putfield 159, 11, 24, 0, 173), none, none, some (.iload 5, 0, 0, 0, 0), none, some (.iastore, 0, 0, 0, 0), some (.iconst 1, 0, 0, 0, 0), some (.istore 4, 0, 0, 0, 0), none, some (.aload_n 0, 0, 0, 0, 0), some (.dup, 0, 0, 0, 0), some (.getfield 137, 11, 19, 0, 168), none, none, some (.iconst 1, 0, 0, 0, 0), some (.iadd, 0, 0, 0, 0), some (.putfield 137, 11, 19, 0, 168), none, none, some (.goto 66, 422, 0, 0, 0), none, none, some (.iload 5, 0, 0, 0, 0), none, some (.bipush 41, 0, 0, 0, 0), none, some (.if_icmp .ne 54, 417, 0, 0, 0), none, none, some (.iload_n 3, 0, 0, 0, 0), some (.ifCond .le 50, 417, 0, 0, 0), none, none, some (.aload_n 0, 0, 0, 0, 0), some (.iload_n 2, 0, 0, 0, 0), some (.iconst 0, 0, 0, 0, 0), some (.invokevirtual 176, 153, 0, 3, 141), none, none, some (.aload_n 0, 0, 0, 0, 0), some (.dup, 0, 0, 0, 0), some (.getfield 159, 11, 24, 0, 173), none, none, some (.iconst 1, 0, 0, 0, 0), some (.isub, 0, 0, 0, 0), some (.putfield 159, 11, 24, 0, 173), none, none, some (.aload_n 0, 0, 0, 0, 0), some (.dup, 0, 0, 0, 0), some (.getfield 162, 11, 25, 0, 174), none, none, some (.iconst 1, 0, 0, 0, 0), some (.isub, 0, 0, 0, 0), some (.putfield 162, 11, 25, 0, 174), none, none, some (.iinc 3 (-1), 0, 0, 0, 0), none, none, some (.aload_n 0, 0, 0, 0, 0), some (.iload_n 2, 0, 0, 0, 0), some (.invokevirtual 172, 152, 0, 2, 140), none, none, some (.aload_n 0, 0, 0, 0, 0), some (.dup, 0, 0, 0, 0), some (.getfield 137, 11, 19, 0, 168), none, none, some (.iconst 1, 0, 0, 0, 0), some (.iadd, 0, 0, 0, 0), some (.putfield 137, 11, 19, 0, 168), none, none, some (.goto 8, 422, 0, 0, 0), none, none, some (.aload_n 0, 0, 0, 0, 0), some (.getfield 137, 11, 19, 0, 168), none, none, some (.ireturn, 0, 0, 0, 0), some (.goto (-269), 153, 0, 0, 0), none, none, some (.iload 4, 0, 0, 0, 0), none, some (.ifCond .ne 7, 434, 0, 0, 0), none, none, some (.iload_n 3, 0, 0, 0, 0), some (.ifCond .le 8, 439, 0, 0, 0), none, none, some (.aload_n 0, 0, 0, 0, 0), some (.getfield 140, 11, 20, 0, 169), none, none, some (.ireturn, 0, 0, 0, 0), some (.aload_n 0, 0, 0, 0, 0), some (.iload_n 2, 0, 0, 0, 0), some (.iconst 0, 0, 0, 0, 0), some (.invokevirtual 176, 153, 0, 3, 141), none, none, some (.aload_n 0, 0, 0, 0, 0), some (.getfield 41, 11, 11, 0, 149), none, none, some (.iload_n 2, 0, 0, 0, 0)]
def zC_154_3 : List (Option zE) := [some (.aload_n 0, 0, 0, 0, 0), some (.getfield 156, 11, 22, 0, 172), none, none, some (.iastore, 0, 0, 0, 0), some (.iconst (-1), 0, 0, 0, 0), some (.ireturn, 0, 0, 0, 0)]
def zC_154 : List (Option zE) := zC_154_0 ++ (zC_154_1 ++ (zC_154_2 ++ (zC_154_3)))
def zC_155 : List (Option zE) := [some (.aload_n 0, 0, 0, 0, 0), some (.iload_n 1, 0, 0, 0, 0), some (.invokevirtual 121, 143, 0, 2, 134), none, none, some (.istore_n 2, 0, 0, 0, 0), some (.iload_n 2, 0, 0, 0, 0), some (.ifCond .eq 9, 16, 0, 0, 0), none, none, some (.aload_n 0, 0, 0, 0, 0), some (.iload_n 2, 0, 0, 0, 0), some (.invokevirtual 103, 123, 0, 2, 129), none, none, some (.ireturn, 0, 0, 0, 0), some (.aload_n 0, 0, 0, 0, 0), some (.getfield 7, 11, 0, 0, 139), none, none, some (.sipush 640, 0, 0, 0, 0), none, none, some (.iaload, 0, 0, 0, 0), some (.iconst 5, 0, 0, 0, 0), some (.if_icmp .ge 14, 39, 0, 0, 0), none, none, some (.aload_n 0, 0, 0, 0, 0), some (.getfield 7, 11, 0, 0, 139), none, none, some (.sipush 640, 0, 0, 0, 0), none, none, some (.iaload, 0, 0, 0, 0), some (.goto 4, 40, 0, 0, 0), none, none, some (.iconst 5, 0, 0, 0, 0), some (.istore_n 3, 0, 0, 0, 0), some (.aload_n 0, 0, 0, 0, 0), some (.aload_n 0, 0, 0, 0, 0), some (.iload_n 1, 0, 0, 0, 0), some (.iload_n 3, 0, 0, 0, 0), some (.invokevirtual 180, 154, 0, 3, 142), none, none, some (.putfield 56, 11, 16, 0, 154), none, none, some (.aload_n 0, 0, 0, 0, 0), some (.getfield 56, 11, 16, 0, 154), none, none, some (.iconst (-1), 0, 0, 0, 0), some (.if_icmp .eq 10, 66, 0, 0, 0), none, none, some (.aload_n 0, 0, 0, 0, 0), some (.bipush (-6), 0, 0, 0, 0), none, some (.invokevirtual 103, 123, 0, 2, 129), none, none, some (.ireturn, 0, 0, 0, 0), some (.iload_n 3, 0, 0, 0, 0), some (.iconst 5, 0, 0, 0, 0), some (.if_icmp .ne 10, 78, 0, 0, 0), none, none, some (.aload_n 0, 0, 0, 0, 0), some (.bipush (-7), 0, 0, 0, 0), none, some (.invokevirtual 103, 123, 0, 2, 129), none, none, some (.ireturn, 0, 0, 0, 0), some (.aload_n 0, 0, 0, 0, 0), some (.getfield 7, 11, 0, 0, 139), none, none, some (.sipush 628, 0, 0, 0, 0), none, none, some (.iload_n 3, 0, 0, 0, 0), some (.iadd, 0, 0, 0, 0), some (.iconst 1, 0, 0, 0, 0), some (.iastore, 0, 0, 0, 0), some (.aload_n 0, 0, 0, 0, 0), some (.getfield 7, 11, 0, 0, 139), none, none, some (.sipush 640, 0, 0, 0, 0), none, none, some (.dup2, 0, 0, 0, 0), some (.iaload, 0, 0, 0, 0), some (.dup_x2, 0, 0, 0, 0), some (.iconst 1, 0, 0, 0, 0), some (.iadd, 0, 0, 0, 0), some (.iastore, 0, 0, 0, 0), some (.ireturn, 0, 0, 0, 0)]
def zC_156 : List (Option zE) := [some (.aload_n 0, 0, 0, 0, 0), some (.getfield 56, 11, 16, 0, 154), none, none, some (.ireturn, 0, 0, 0, 0)]
def zC_157 : List (Option zE) := [some (.iload_n 1, 0, 0, 0, 0), some (.ifCond .lt 19, 20, 0, 0, 0), none, none, some (.iload_n 1, 0, 0, 0, 0), some (.aload_n 0, 0, 0, 0, 0), some (.getfield 7, 11, 0, 0, 139), none, none, some (.sipush 640, 0, 0, 0, 0), none, none, some (.iaload, 0, 0, 0, 0), some (.if_icmp .ge 7, 20, 0, 0, 0), none, none, some (.iconst 1, 0, 0, 0, 0), some (.goto 4, 21, 0, 0, 0), none, none, some (.iconst 0, 0, 0, 0, 0), some (.ireturn, 0, 0, 0, 0)]
def zC_158 : List (Option zE) := [some (.aload_n 0, 0, 0, 0, 0), some (.iload_n 1, 0, 0, 0, 0), some (.invokevirtual 183, 157, 0, 2, 143), none, none, some (.ifCond .eq 16, 21, 0, 0, 0), none, none, some (.aload_n 0, 0, 0, 0, 0), some (.sipush 628, 0, 0, 0, 0), none, none, some (.iload_n 1, 0, 0, 0, 0), some (.iadd, 0, 0, 0, 0), some (.iload_n 2, 0, 0, 0, 0), some (.invokevirtual 111, 129, 0, 3, 131), none, none, some (.goto 8, 26, 0, 0, 0), none, none, some (.aload_n 0, 0, 0, 0, 0), some (.iconst (-1), 0, 0, 0, 0), some (.invokevirtual 103, 123, 0, 2, 129), none, none, some (.ireturn, 0, 0, 0, 0)]
def zC_159 : List (Option zE) := [some (.aload_n 0, 0, 0, 0, 0), some (.getfield 7, 11, 0, 0, 139), none, none, some (.bipush 25, 0, 0, 0, 0), none, some (.iaload, 0, 0, 0, 0), some (.istore_n 1, 0, 0, 0, 0), some (.iconst 1, 0, 0, 0, 0), some (.istore_n 2, 0, 0, 0, 0), some (.iload_n 2, 0, 0, 0, 0), some (.bipush 25, 0, 0, 0, 0), none, some (.if_icmp .ge 32, 45, 0, 0, 0), none, none, some (.aload_n 0, 0, 0, 0, 0), some (.getfield 7, 11, 0, 0, 139), none, none, some (.bipush 25, 0, 0, 0, 0), none, some (.iload_n 2, 0, 0, 0, 0), some (.iadd, 0, 0, 0, 0), some (.iaload, 0, 0, 0, 0), some (.iload_n 1, 0, 0, 0, 0), some (.if_icmp .le 13, 39, 0, 0, 0), none, none, some (.aload_n 0, 0, 0, 0, 0), some (.getfield 7, 11, 0, 0, 139), none, none, some (.bipush 25, 0, 0, 0, 0), none, some (.iload_n 2, 0, 0, 0, 0), some (.iadd, 0, 0, 0, 0), some (.iaload, 0, 0, 0, 0), some (.istore_n 1, 0, 0, 0, 0), some (.iinc 2 1, 0, 0, 0, 0), none, none, some (.goto (-32), 10, 0, 0, 0), none, none, some (.iload_n 1, 0, 0, 0, 0), some (.ireturn, 0, 0, 0, 0)]
def zC_160 : List (Option zE) := [some (.iconst 0, 0, 0, 0, 0), some (.istore_n 1, 0, 0, 0, 0), some (.iconst 0, 0, 0, 0, 0), some (.istore_n 2, 0, 0, 0, 0), some (.iload_n 2, 0, 0, 0, 0), some (.aload_n 0, 0, 0, 0, 0), some (.getfield 7, 11, 0, 0, 139), none, none, some (.sipush 642, 0, 0, 0, 0), none, none, some (.iaload, 0, 0, 0, 0), some (.if_icmp .ge 26, 39, 0, 0, 0), none, none, some (.aload_n 0, 0, 0, 0, 0), some (.getfield 7, 11, 0, 0, 139), none, none, some (.sipush 598, 0, 0, 0, 0), none, none, some (.iload_n 2, 0, 0, 0, 0), some (.iadd, 0, 0, 0, 0), some (.iaload, 0, 0, 0, 0), some (.iconst (-1), 0, 0, 0, 0), some (.if_icmp .eq 6, 33, 0, 0, 0), none, none, some (.iinc 1 1, 0, 0, 0, 0), none, none, some (.iinc 2 1, 0, 0, 0, 0), none, none, some (.goto (-32), 4, 0, 0, 0), none, none, some (.iload_n 1, 0, 0, 0, 0), some (.ireturn, 0, 0, 0, 0)]
def zC_161 : List (Option zE) := [some (.aload_n 0, 0, 0, 0, 0), some (.getfield 7, 11, 0, 0, 139), none, none, some (.sipush 634, 0, 0, 0, 0), none, none, some (.iaload, 0, 0, 0, 0), some (.istore_n 2, 0, 0, 0, 0), some (.iload_n 1, 0, 0, 0, 0), some (.lookupswitch 131 #[(102, 50), (104, 119), (108, 114), (115, 107), (119, 126)], 0, 0, 0, 0), none, none, none, none, none, none, none, none, none, none, none, none, none, none, none, none, none, none, none, none, none, none, none, none, none, none, none, none, none, none, none, none, none, none, none, none, none, none, none, none, none, none, none, none, none, none, none, none, none, some (.aload_n 0, 0, 0, 0, 0), some (.iload_n 2, 0, 0, 0, 0), some (.iconst 1, 0, 0, 0, 0), some (.invokevirtual 134, 145, 0, 3, 135), none, none, some (.istore_n 3, 0, 0, 0, 0), some (.iconst 1, 0, 0, 0, 0), some (.istore 4, 0, 0, 0, 0), none, some (.iload 4, 0, 0, 0, 0), none, some (.bipush 8, 0, 0, 0, 0), none, some (.if_icmp .ge 32, 106, 0, 0, 0), none, none, some (.aload_n 0, 0, 0, 0, 0), some (.iload_n 2, 0, 0, 0, 0), some (.iload 4, 0, 0, 0, 0), none, some (.iadd, 0, 0, 0, 0), some (.iconst 1, 0, 0, 0, 0), some (.invokevirtual 134, 145, 0, 3, 135), none, none, some (.iload_n 3, 0, 0, 0, 0), some (.if_icmp .le 13, 100, 0, 0, 0), none, none, some (.aload_n 0, 0, 0, 0, 0), some (.iload_n 2, 0, 0, 0, 0), some (.iload 4, 0, 0, 0, 0), none, some (.iadd, 0, 0, 0, 0), some (.iconst 1, 0, 0, 0, 0), some (.invokevirtual 134, 145, 0, 3, 135), none, none, some (.istore_n 3, 0, 0, 0, 0), some (.iinc 4 1, 0, 0, 0, 0), none, none, some (.goto (-33), 70, 0, 0, 0), none, none, some (.iload_n 3, 0, 0, 0, 0), some (.aload_n 0, 0, 0, 0, 0), some (.getfield 7, 11, 0, 0, 139), none, none, some (.sipush 637, 0, 0, 0, 0), none, none, some (.iaload, 0, 0, 0, 0), some (.iadd, 0, 0, 0, 0), some (.ireturn, 0, 0, 0, 0), some (.aload_n 0, 0, 0, 0, 0), some (.iload_n 2, 0, 0, 0, 0), some (.iconst 1, 0, 0, 0, 0), some (.invokevirtual 134, 145, 0, 3, 135), none, none, some (.ireturn, 0, 0, 0, 0), some (.aload_n 0, 0, 0, 0, 0), some (.invokevirtual 186, 159, 0, 1, 144), none, none, some (.ireturn, 0, 0, 0, 0), some (.iload_n 2, 0, 0, 0, 0), some (.iconst 4, 0, 0, 0, 0), some (.idiv, 0, 0, 0, 0), some (.bipush 24, 0, 0, 0, 0), none, some (.irem, 0, 0, 0, 0), some (.ireturn, 0, 0, 0, 0), some (.aload_n 0, 0, 0, 0, 0), some (.invokevirtual 189, 160, 0, 1, 145), none, none, some (.ireturn, 0, 0, 0, 0), some (.iload_n 2, 0, 0, 0, 0), some (.bipush 96, 0, 0, 0, 0), none, some (.idiv, 0, 0, 0, 0), some (.ireturn, 0, 0, 0, 0)]
def zC_162_0 : List (Option zE) := [some (.iconst 0, 0, 0, 0, 0), some (.istore_n 2, 0, 0, 0, 0), some (.iconst 0, 0, 0, 0, 0), some (.istore_n 3, 0, 0, 0, 0), some (.iload_n 3, 0, 0, 0, 0), some (.aload_n 0, 0, 0, 0, 0), some (.getfield 41, 11, 11, 0, 149), none, none, some (.iload_n 1, 0, 0, 0, 0), some (.iaload, 0, 0, 0, 0), some (.if_icmp .ge 209, 220, 0, 0, 0), none, none, some (.aload_n 0, 0, 0, 0, 0), some (.getfield 44, 11, 12, 0, 150), none, none, some (.bipush 120, 0, 0, 0, 0), none, some (.iload_n 1, 0, 0, 0, 0), some (.imul, 0, 0, 0, 0), some (.iload_n 3, 0, 0, 0, 0), some (.iadd, 0, 0, 0, 0), some (.iaload, 0, 0, 0, 0), some (.istore 4, 0, 0, 0, 0), none, some (.iload 4, 0, 0, 0, 0), none, some (.ifCond .lt 107, 136, 0, 0, 0), none, none, some (.aload_n 0, 0, 0, 0, 0), some (.aload_n 0, 0, 0, 0, 0), some (.getfield 47, 11, 13, 0, 151), none, none, some (.bipush 50, 0, 0, 0, 0), none, some (.iload_n 1, 0, 0, 0, 0), some (.imul, 0, 0, 0, 0), some (.iload 4, 0, 0, 0, 0), none, some (.iadd, 0, 0, 0, 0), some (.iaload, 0, 0, 0, 0), some (.invokevirtual 192, 161, 0, 2, 146), none, none, some (.istore 5, 0, 0, 0, 0), none, some (.aload_n 0, 0, 0, 0, 0), some (.getfield 53, 11, 15, 0, 153), none, none, some (.bipush 50, 0, 0, 0, 0), none, some (.iload_n 1, 0, 0, 0, 0), some (.imul, 0, 0, 0, 0), some (.iload 4, 0, 0, 0, 0), none, some (.iadd, 0, 0, 0, 0), some (.iaload, 0, 0, 0, 0), some (.istore 6, 0, 0, 0, 0), none, some (.aload_n 0, 0, 0, 0, 0), some (.getfield 50, 11, 14, 0, 152), none, none, some (.bipush 50, 0, 0, 0, 0), none, some (.iload_n 1, 0, 0, 0, 0), some (.imul, 0, 0, 0, 0), some (.iload 4, 0, 0, 0, 0), none, some (.iadd, 0, 0, 0, 0), some (.iaload, 0, 0, 0, 0), some (.istore 7, 0, 0, 0, 0), none, some (.aload_n 0, 0, 0, 0, 0), some (.getfield 66, 11, 26, 0, 157), none, none, some (.iload_n 2, 0, 0, 0, 0), some (.iinc 2 1, 0, 0, 0, 0), none, none, some (.iload 7, 0, 0, 0, 0), none, some (.bipush 60, 0, 0, 0, 0), none, some (.if_icmp .ne 13, 103, 0, 0, 0), none, none, some (.iload 5, 0, 0, 0, 0), none, some (.iload 6, 0, 0, 0, 0), none, some (.if_icmp .ge 34, 131, 0, 0, 0), none, none, some (.goto 27, 127, 0, 0, 0), none, none, some (.iload 7, 0, 0, 0, 0), none, some (.bipush 62, 0, 0, 0, 0), none, some (.if_icmp .ne 13, 120, 0, 0, 0), none, none, some (.iload 5, 0, 0, 0, 0), none, some (.iload 6, 0, 0, 0, 0), none, some (.if_icmp .le 17, 131, 0, 0, 0), none, none, some (.goto 10, 127, 0, 0, 0), none, none, some (.iload 5, 0, 0, 0, 0), none, some (.iload 6, 0, 0, 0, 0), none, some (.if_icmp .ne 7, 131, 0, 0, 0), none, none, some (.iconst 1, 0, 0, 0, 0), some (.goto 4, 132, 0, 0, 0), none, none, some (.iconst 0, 0, 0, 0, 0), some (.iastore, 0, 0, 0, 0), some (.goto 81, 214, 0, 0, 0), none, none, some (.iload 4, 0, 0, 0, 0), none, some (.iconst (-1), 0, 0, 0, 0), some (.if_icmp .ne 24, 163, 0, 0, 0), none, none, some (.aload_n 0, 0, 0, 0, 0), some (.getfield 66, 11, 26, 0, 157), none, none, some (.iload_n 2, 0, 0, 0, 0), some (.iconst 1, 0, 0, 0, 0), some (.isub, 0, 0, 0, 0), some (.iconst 1, 0, 0, 0, 0)]
def zC_162_1 : List (Option zE) := [some (.aload_n 0, 0, 0, 0, 0), some (.getfield 66, 11, 26, 0, 157), none, none, some (.iload_n 2, 0, 0, 0, 0), some (.iconst 1, 0, 0, 0, 0), some (.isub, 0, 0, 0, 0), some (.iaload, 0, 0, 0, 0), some (.isub, 0, 0, 0, 0), some (.iastore, 0, 0, 0, 0), some (.goto 54, 214, 0, 0, 0), none, none, some (.iinc 2 (-1), 0, 0, 0, 0), none, none, some (.aload_n 0, 0, 0, 0, 0), some (.getfield 66, 11, 26, 0, 157), none, none, some (.iload_n 2, 0, 0, 0, 0), some (.iconst 1, 0, 0, 0, 0), some (.isub, 0, 0, 0, 0), some (.iload 4, 0, 0, 0, 0), none, some (.bipush (-2), 0, 0, 0, 0), none, some (.if_icmp .ne 21, 198, 0, 0, 0), none, none, some (.aload_n 0, 0, 0, 0, 0), some (.getfield 66, 11, 26, 0, 157), none, none, some (.iload_n 2, 0, 0, 0, 0), some (.iconst 1, 0, 0, 0, 0), some (.isub, 0, 0, 0, 0), some (.iaload, 0, 0, 0, 0), some (.aload_n 0, 0, 0, 0, 0), some (.getfield 66, 11, 26, 0, 157), none, none, some (.iload_n 2, 0, 0, 0, 0), some (.iaload, 0, 0, 0, 0), some (.iand, 0, 0, 0, 0), some (.goto 18, 213, 0, 0, 0), none, none, some (.aload_n 0, 0, 0, 0, 0), some (.getfield 66, 11, 26, 0, 157), none, none, some (.iload_n 2, 0, 0, 0, 0), some (.iconst 1, 0, 0, 0, 0), some (.isub, 0, 0, 0, 0), some (.iaload, 0, 0, 0, 0), some (.aload_n 0, 0, 0, 0, 0), some (.getfield 66, 11, 26, 0, 157), none, none, some (.iload_n 2, 0, 0, 0, 0), some (.iaload, 0, 0, 0, 0), some (.ior, 0, 0, 0, 0), some (.iastore, 0, 0, 0, 0), some (.iinc 3 1, 0, 0, 0, 0), none, none, some (.goto (-213), 4, 0, 0, 0), none, none, some (.aload_n 0, 0, 0, 0, 0), some (.getfield 66, 11, 26, 0, 157), none, none, some (.iconst 0, 0, 0, 0, 0), some (.iaload, 0, 0, 0, 0), some (.iconst 1, 0, 0, 0, 0), some (.if_icmp .ne 7, 234, 0, 0, 0), none, none, some (.iconst 1, 0, 0, 0, 0), some (.goto 4, 235, 0, 0, 0), none, none, some (.iconst 0, 0, 0, 0, 0), some (.ireturn, 0, 0, 0, 0)]
def zC_162 : List (Option zE) := zC_162_0 ++ (zC_162_1)
def zC_163 : List (Option zE) := [some (.aload_n 0, 0, 0, 0, 0), some (.iload_n 1, 0, 0, 0, 0), some (.invokevirtual 183, 157, 0, 2, 143), none, none, some (.ifCond .eq 19, 24, 0, 0, 0), none, none, some (.aload_n 0, 0, 0, 0, 0), some (.iload_n 1, 0, 0, 0, 0), some (.invokevirtual 195, 162, 0, 2, 147), none, none, some (.ifCond .eq 7, 20, 0, 0, 0), none, none, some (.iconst 1, 0, 0, 0, 0), some (.goto 8, 25, 0, 0, 0), none, none, some (.iconst 0, 0, 0, 0, 0), some (.goto 4, 25, 0, 0, 0), none, none, some (.iconst (-1), 0, 0, 0, 0), some (.ireturn, 0, 0, 0, 0)]
def zC_164_0 : List (Option zE) := [some (.iload_n 1, 0, 0, 0, 0), some (.ifCond .lt 15, 16, 0, 0, 0), none, none, some (.iload_n 1, 0, 0, 0, 0), some (.iconst 2, 0, 0, 0, 0), some (.if_icmp .gt 10, 16, 0, 0, 0), none, none, some (.iload_n 2, 0, 0, 0, 0), some (.invokestatic 99, 124, 1, 1, 128), none, none, some (.ifCond .ne 9, 22, 0, 0, 0), none, none, some (.aload_n 0, 0, 0, 0, 0), some (.iconst (-1), 0, 0, 0, 0), some (.invokevirtual 103, 123, 0, 2, 129), none, none, some (.ireturn, 0, 0, 0, 0), some (.iload_n 3, 0, 0, 0, 0), some (.ifCond .lt 34, 57, 0, 0, 0), none, none, some (.iload_n 3, 0, 0, 0, 0), some (.sipush 200, 0, 0, 0, 0), none, none, some (.if_icmp .gt 27, 57, 0, 0, 0), none, none, some (.iload 4, 0, 0, 0, 0), none, some (.ifCond .lt 22, 57, 0, 0, 0), none, none, some (.iload 4, 0, 0, 0, 0), none, some (.bipush 99, 0, 0, 0, 0), none, some (.if_icmp .gt 15, 57, 0, 0, 0), none, none, some (.iload 5, 0, 0, 0, 0), none, some (.ifCond .lt 10, 57, 0, 0, 0), none, none, some (.iload 5, 0, 0, 0, 0), none, some (.bipush 99, 0, 0, 0, 0), none, some (.if_icmp .le 10, 64, 0, 0, 0), none, none, some (.aload_n 0, 0, 0, 0, 0), some (.bipush (-6), 0, 0, 0, 0), none, some (.invokevirtual 103, 123, 0, 2, 129), none, none, some (.ireturn, 0, 0, 0, 0), some (.aload_n 0, 0, 0, 0, 0), some (.getfield 7, 11, 0, 0, 139), none, none, some (.sipush 641, 0, 0, 0, 0), none, none, some (.iaload, 0, 0, 0, 0), some (.istore 6, 0, 0, 0, 0), none, some (.iload 6, 0, 0, 0, 0), none, some (.bipush 12, 0, 0, 0, 0), none, some (.if_icmp .ne 10, 88, 0, 0, 0), none, none, some (.aload_n 0, 0, 0, 0, 0), some (.bipush (-7), 0, 0, 0, 0), none, some (.invokevirtual 103, 123, 0, 2, 129), none, none, some (.ireturn, 0, 0, 0, 0), some (.aload_n 0, 0, 0, 0, 0), some (.getfield 7, 11, 0, 0, 139), none, none, some (.sipush 448, 0, 0, 0, 0), none, none, some (.iload 6, 0, 0, 0, 0), none, some (.iadd, 0, 0, 0, 0), some (.iload_n 1, 0, 0, 0, 0), some (.iastore, 0, 0, 0, 0), some (.aload_n 0, 0, 0, 0, 0), some (.getfield 7, 11, 0, 0, 139), none, none, some (.sipush 460, 0, 0, 0, 0), none, none, some (.iload 6, 0, 0, 0, 0), none, some (.iadd, 0, 0, 0, 0), some (.iload_n 2, 0, 0, 0, 0), some (.iastore, 0, 0, 0, 0), some (.aload_n 0, 0, 0, 0, 0), some (.getfield 7, 11, 0, 0, 139), none, none, some (.sipush 472, 0, 0, 0, 0), none, none, some (.iload 6, 0, 0, 0, 0), none, some (.iadd, 0, 0, 0, 0), some (.iload_n 3, 0, 0, 0, 0), some (.iastore, 0, 0, 0, 0), some (.aload_n 0, 0, 0, 0, 0), some (.getfield 7, 11, 0, 0, 139), none, none, some (.sipush 484, 0, 0, 0, 0), none, none, some (.iload 6, 0, 0, 0, 0), none, some (.iadd, 0, 0, 0, 0), some (.iload 4, 0, 0, 0, 0), none, some (.iastore, 0, 0, 0, 0), some (.aload_n 0, 0, 0, 0, 0), some (.getfield 7, 11, 0, 0, 139), none, none, some (.sipush 496, 0, 0, 0, 0), none, none, some (.iload 6, 0, 0, 0, 0), none, some (.iadd, 0, 0, 0, 0), some (.iload 5, 0, 0, 0, 0), none, some (.iastore, 0, 0, 0, 0)]
def zC_164_1 : List (Option zE) := [some (.sipush 508, 0, 0, 0, 0), none, none, some (.istore 7, 0, 0, 0, 0), none, some (.iload 7, 0, 0, 0, 0), none, some (.sipush 556, 0, 0, 0, 0), none, none, some (.if_icmp .gt 20, 180, 0, 0, 0), none, none, some (.aload_n 0, 0, 0, 0, 0), some (.getfield 7, 11, 0, 0, 139), none, none, some (.iload 7, 0, 0, 0, 0), none, some (.iload 6, 0, 0, 0, 0), none, some (.iadd, 0, 0, 0, 0), some (.iconst 0, 0, 0, 0, 0), some (.iastore, 0, 0, 0, 0), some (.iinc 7 12, 0, 0, 0, 0), none, none, some (.goto (-22), 155, 0, 0, 0), none, none, some (.aload_n 0, 0, 0, 0, 0), some (.getfield 7, 11, 0, 0, 139), none, none, some (.sipush 641, 0, 0, 0, 0), none, none, some (.dup2, 0, 0, 0, 0), some (.iaload, 0, 0, 0, 0), some (.dup_x2, 0, 0, 0, 0), some (.iconst 1, 0, 0, 0, 0), some (.iadd, 0, 0, 0, 0), some (.iastore, 0, 0, 0, 0), some (.ireturn, 0, 0, 0, 0)]
def zC_164 : List (Option zE) := zC_164_0 ++ (zC_164_1)
def zC_165 : List (Option zE) := [some (.aload_n 0, 0, 0, 0, 0), some (.iload_n 1, 0, 0, 0, 0), some (.invokevirtual 118, 139, 0, 2, 133), none, none, some (.ifCond .ne 9, 14, 0, 0, 0), none, none, some (.aload_n 0, 0, 0, 0, 0), some (.iconst (-1), 0, 0, 0, 0), some (.invokevirtual 103, 123, 0, 2, 129), none, none, some (.ireturn, 0, 0, 0, 0), some (.iload_n 2, 0, 0, 0, 0), some (.iconst 1, 0, 0, 0, 0), some (.if_icmp .lt 27, 43, 0, 0, 0), none, none, some (.iload_n 2, 0, 0, 0, 0), some (.bipush 50, 0, 0, 0, 0), none, some (.if_icmp .gt 21, 43, 0, 0, 0), none, none, some (.aload_n 0, 0, 0, 0, 0), some (.getfield 7, 11, 0, 0, 139), none, none, some (.sipush 472, 0, 0, 0, 0), none, none, some (.iload_n 1, 0, 0, 0, 0), some (.iadd, 0, 0, 0, 0), some (.iaload, 0, 0, 0, 0), some (.iload_n 2, 0, 0, 0, 0), some (.iadd, 0, 0, 0, 0), some (.sipush 300, 0, 0, 0, 0), none, none, some (.if_icmp .le 10, 50, 0, 0, 0), none, none, some (.aload_n 0, 0, 0, 0, 0), some (.bipush (-6), 0, 0, 0, 0), none, some (.invokevirtual 103, 123, 0, 2, 129), none, none, some (.ireturn, 0, 0, 0, 0), some (.aload_n 0, 0, 0, 0, 0), some (.getfield 7, 11, 0, 0, 139), none, none, some (.sipush 472, 0, 0, 0, 0), none, none, some (.iload_n 1, 0, 0, 0, 0), some (.iadd, 0, 0, 0, 0), some (.dup2, 0, 0, 0, 0), some (.iaload, 0, 0, 0, 0), some (.iload_n 2, 0, 0, 0, 0), some (.iadd, 0, 0, 0, 0), some (.iastore, 0, 0, 0, 0), some (.aload_n 0, 0, 0, 0, 0), some (.getfield 7, 11, 0, 0, 139), none, none, some (.sipush 472, 0, 0, 0, 0), none, none, some (.iload_n 1, 0, 0, 0, 0), some (.iadd, 0, 0, 0, 0), some (.iaload, 0, 0, 0, 0), some (.ireturn, 0, 0, 0, 0)]
def zC_166 : List (Option zE) := [some (.aload_n 0, 0, 0, 0, 0), some (.iload_n 1, 0, 0, 0, 0), some (.invokevirtual 118, 139, 0, 2, 133), none, none, some (.ifCond .ne 5, 10, 0, 0, 0), none, none, some (.iconst (-1), 0, 0, 0, 0), some (.ireturn, 0, 0, 0, 0), some (.iload_n 2, 0, 0, 0, 0), some (.tableswitch 133 0 7 #[45, 56, 67, 78, 89, 100, 111, 122], 0, 0, 0, 0), none, none, none, none, none, none, none, none, none, none, none, none, none, none, none, none, none, none, none, none, none, none, none, none, none, none, none, none, none, none, none, none, none, none, none, none, none, none, none, none, none, none, none, none, some (.aload_n 0, 0, 0, 0, 0), some (.getfield 7, 11, 0, 0, 139), none, none, some (.sipush 448, 0, 0, 0, 0), none, none, some (.iload_n 1, 0, 0, 0, 0), some (.iadd, 0, 0, 0, 0), some (.iaload, 0, 0, 0, 0), some (.ireturn, 0, 0, 0, 0), some (.aload_n 0, 0, 0, 0, 0), some (.getfield 7, 11, 0, 0, 139), none, none, some (.sipush 460, 0, 0, 0, 0), none, none, some (.iload_n 1, 0, 0, 0, 0), some (.iadd, 0, 0, 0, 0), some (.iaload, 0, 0, 0, 0), some (.ireturn, 0, 0, 0, 0), some (.aload_n 0, 0, 0, 0, 0), some (.getfield 7, 11, 0, 0, 139), none, none, some (.sipush 472, 0, 0, 0, 0), none, none, some (.iload_n 1, 0, 0, 0, 0), some (.iadd, 0, 0, 0, 0), some (.iaload, 0, 0, 0, 0), some (.ireturn, 0, 0, 0, 0), some (.aload_n 0, 0, 0, 0, 0), some (.getfield 7, 11, 0, 0, 139), none, none, some (.sipush 508, 0, 0, 0, 0), none, none, some (.iload_n 1, 0, 0, 0, 0), some (.iadd, 0, 0, 0, 0), some (.iaload, 0, 0, 0, 0), some (.ireturn, 0, 0, 0, 0), some (.aload_n 0, 0, 0, 0, 0), some (.getfield 7, 11, 0, 0, 139), none, none, some (.sipush 520, 0, 0, 0, 0), none, none, some (.iload_n 1, 0, 0, 0, 0), some (.iadd, 0, 0, 0, 0), some (.iaload, 0, 0, 0, 0), some (.ireturn, 0, 0, 0, 0), some (.aload_n 0, 0, 0, 0, 0), some (.getfield 7, 11, 0, 0, 139), none, none, some (.sipush 532, 0, 0, 0, 0), none, none, some (.iload_n 1, 0, 0, 0, 0), some (.iadd, 0, 0, 0, 0), some (.iaload, 0, 0, 0, 0), some (.ireturn, 0, 0, 0, 0), some (.aload_n 0, 0, 0, 0, 0), some (.getfield 7, 11, 0, 0, 139), none, none, some (.sipush 544, 0, 0, 0, 0), none, none, some (.iload_n 1, 0, 0, 0, 0), some (.iadd, 0, 0, 0, 0), some (.iaload, 0, 0, 0, 0), some (.ireturn, 0, 0, 0, 0), some (.aload_n 0, 0, 0, 0, 0), some (.getfield 7, 11, 0, 0, 139), none, none, some (.sipush 556, 0, 0, 0, 0), none, none, some (.iload_n 1, 0, 0, 0, 0), some (.iadd, 0, 0, 0, 0), some (.iaload, 0, 0, 0, 0), some (.ireturn, 0, 0, 0, 0), some (.iconst (-1), 0, 0, 0, 0), some (.ireturn, 0, 0, 0, 0)]
def zC_167 : List (Option zE) := [some (.iload_n 1, 0, 0, 0, 0), some (.ifCond .lt 19, 20, 0, 0, 0), none, none, some (.iload_n 1, 0, 0, 0, 0), some (.aload_n 0, 0, 0, 0, 0), some (.getfield 7, 11, 0, 0, 139), none, none, some (.sipush 642, 0, 0, 0, 0), none, none, some (.iaload, 0, 0, 0, 0), some (.if_icmp .ge 7, 20, 0, 0, 0), none, none, some (.iconst 1, 0, 0, 0, 0), some (.goto 4, 21, 0, 0, 0), none, none, some (.iconst 0, 0, 0, 0, 0), some (.ireturn, 0, 0, 0, 0)]
def zC_168_0 : List (Option zE) := [some (.iload_n 1, 0, 0, 0, 0), some (.invokestatic 99, 124, 1, 1, 128), none, none, some (.ifCond .ne 9, 13, 0, 0, 0), none, none, some (.aload_n 0, 0, 0, 0, 0), some (.iconst (-1), 0, 0, 0, 0), some (.invokevirtual 103, 123, 0, 2, 129), none, none, some (.ireturn, 0, 0, 0, 0), some (.iload_n 2, 0, 0, 0, 0), some (.iconst 1, 0, 0, 0, 0), some (.if_icmp .lt 45, 60, 0, 0, 0), none, none, some (.iload_n 2, 0, 0, 0, 0), some (.bipush 60, 0, 0, 0, 0), none, some (.if_icmp .gt 39, 60, 0, 0, 0), none, none, some (.iload_n 3, 0, 0, 0, 0), some (.iconst 1, 0, 0, 0, 0), some (.if_icmp .lt 34, 60, 0, 0, 0), none, none, some (.iload_n 3, 0, 0, 0, 0), some (.bipush 99, 0, 0, 0, 0), none, some (.if_icmp .gt 28, 60, 0, 0, 0), none, none, some (.iload 4, 0, 0, 0, 0), none, some (.iconst 1, 0, 0, 0, 0), some (.if_icmp .lt 22, 60, 0, 0, 0), none, none, some (.iload 4, 0, 0, 0, 0), none, some (.bipush 9, 0, 0, 0, 0), none, some (.if_icmp .gt 15, 60, 0, 0, 0), none, none, some (.iload 5, 0, 0, 0, 0), none, some (.ifCond .lt 10, 60, 0, 0, 0), none, none, some (.iload 5, 0, 0, 0, 0), none, some (.bipush 9, 0, 0, 0, 0), none, some (.if_icmp .le 10, 67, 0, 0, 0), none, none, some (.aload_n 0, 0, 0, 0, 0), some (.bipush (-6), 0, 0, 0, 0), none, some (.invokevirtual 103, 123, 0, 2, 129), none, none, some (.ireturn, 0, 0, 0, 0), some (.aload_n 0, 0, 0, 0, 0), some (.getfield 7, 11, 0, 0, 139), none, none, some (.sipush 642, 0, 0, 0, 0), none, none, some (.iaload, 0, 0, 0, 0), some (.istore 6, 0, 0, 0, 0), none, some (.iload 6, 0, 0, 0, 0), none, some (.bipush 6, 0, 0, 0, 0), none, some (.if_icmp .ne 10, 91, 0, 0, 0), none, none, some (.aload_n 0, 0, 0, 0, 0), some (.bipush (-7), 0, 0, 0, 0), none, some (.invokevirtual 103, 123, 0, 2, 129), none, none, some (.ireturn, 0, 0, 0, 0), some (.aload_n 0, 0, 0, 0, 0), some (.getfield 7, 11, 0, 0, 139), none, none, some (.sipush 568, 0, 0, 0, 0), none, none, some (.iload 6, 0, 0, 0, 0), none, some (.iadd, 0, 0, 0, 0), some (.iload_n 1, 0, 0, 0, 0), some (.iastore, 0, 0, 0, 0), some (.aload_n 0, 0, 0, 0, 0), some (.getfield 7, 11, 0, 0, 139), none, none, some (.sipush 574, 0, 0, 0, 0), none, none, some (.iload 6, 0, 0, 0, 0), none, some (.iadd, 0, 0, 0, 0), some (.iload_n 2, 0, 0, 0, 0), some (.iastore, 0, 0, 0, 0), some (.aload_n 0, 0, 0, 0, 0), some (.getfield 7, 11, 0, 0, 139), none, none, some (.sipush 580, 0, 0, 0, 0), none, none, some (.iload 6, 0, 0, 0, 0), none, some (.iadd, 0, 0, 0, 0), some (.iload_n 3, 0, 0, 0, 0), some (.iastore, 0, 0, 0, 0), some (.aload_n 0, 0, 0, 0, 0), some (.getfield 7, 11, 0, 0, 139), none, none, some (.sipush 586, 0, 0, 0, 0), none, none, some (.iload 6, 0, 0, 0, 0), none, some (.iadd, 0, 0, 0, 0), some (.iload 4, 0, 0, 0, 0), none, some (.iastore, 0, 0, 0, 0), some (.aload_n 0, 0, 0, 0, 0), some (.getfield 7, 11, 0, 0, 139), none, none, some (.sipush 592, 0, 0, 0, 0), none, none, some (.iload 6, 0, 0, 0, 0), none, some (.iadd, 0, 0, 0, 0)]
def zC_168_1 : List (Option zE) := [some (.iload 5, 0, 0, 0, 0), none, some (.iastore, 0, 0, 0, 0), some (.aload_n 0, 0, 0, 0, 0), some (.getfield 7, 11, 0, 0, 139), none, none, some (.sipush 598, 0, 0, 0, 0), none, none, some (.iload 6, 0, 0, 0, 0), none, some (.iadd, 0, 0, 0, 0), some (.iconst (-1), 0, 0, 0, 0), some (.iastore, 0, 0, 0, 0), some (.sipush 604, 0, 0, 0, 0), none, none, some (.istore 7, 0, 0, 0, 0), none, some (.iload 7, 0, 0, 0, 0), none, some (.sipush 622, 0, 0, 0, 0), none, none, some (.if_icmp .gt 20, 195, 0, 0, 0), none, none, some (.aload_n 0, 0, 0, 0, 0), some (.getfield 7, 11, 0, 0, 139), none, none, some (.iload 7, 0, 0, 0, 0), none, some (.iload 6, 0, 0, 0, 0), none, some (.iadd, 0, 0, 0, 0), some (.iconst 0, 0, 0, 0, 0), some (.iastore, 0, 0, 0, 0), some (.iinc 7 6, 0, 0, 0, 0), none, none, some (.goto (-22), 170, 0, 0, 0), none, none, some (.aload_n 0, 0, 0, 0, 0), some (.getfield 7, 11, 0, 0, 139), none, none, some (.sipush 642, 0, 0, 0, 0), none, none, some (.dup2, 0, 0, 0, 0), some (.iaload, 0, 0, 0, 0), some (.dup_x2, 0, 0, 0, 0), some (.iconst 1, 0, 0, 0, 0), some (.iadd, 0, 0, 0, 0), some (.iastore, 0, 0, 0, 0), some (.ireturn, 0, 0, 0, 0)]
def zC_168 : List (Option zE) := zC_168_0 ++ (zC_168_1)
def zC_169 : List (Option zE) := [some (.aload_n 0, 0, 0, 0, 0), some (.iload_n 1, 0, 0, 0, 0), some (.invokevirtual 198, 167, 0, 2, 148), none, none, some (.ifCond .eq 15, 20, 0, 0, 0), none, none, some (.iload_n 2, 0, 0, 0, 0), some (.iconst (-1), 0, 0, 0, 0), some (.if_icmp .eq 16, 26, 0, 0, 0), none, none, some (.iload_n 2, 0, 0, 0, 0), some (.invokestatic 99, 124, 1, 1, 128), none, none, some (.ifCond .ne 9, 26, 0, 0, 0), none, none, some (.aload_n 0, 0, 0, 0, 0), some (.iconst (-1), 0, 0, 0, 0), some (.invokevirtual 103, 123, 0, 2, 129), none, none, some (.ireturn, 0, 0, 0, 0), some (.aload_n 0, 0, 0, 0, 0), some (.getfield 7, 11, 0, 0, 139), none, none, some (.sipush 598, 0, 0, 0, 0), none, none, some (.iload_n 1, 0, 0, 0, 0), some (.iadd, 0, 0, 0, 0), some (.iaload, 0, 0, 0, 0), some (.istore_n 3, 0, 0, 0, 0), some (.aload_n 0, 0, 0, 0, 0), some (.getfield 7, 11, 0, 0, 139), none, none, some (.sipush 598, 0, 0, 0, 0), none, none, some (.iload_n 1, 0, 0, 0, 0), some (.iadd, 0, 0, 0, 0), some (.iload_n 2, 0, 0, 0, 0), some (.aload_n 0, 0, 0, 0, 0), some (.getfield 7, 11, 0, 0, 139), none, none, some (.sipush 568, 0, 0, 0, 0), none, none, some (.iload_n 1, 0, 0, 0, 0), some (.iadd, 0, 0, 0, 0), some (.iaload, 0, 0, 0, 0), some (.if_icmp .ne 7, 64, 0, 0, 0), none, none, some (.iconst (-1), 0, 0, 0, 0), some (.goto 4, 65, 0, 0, 0), none, none, some (.iload_n 2, 0, 0, 0, 0), some (.iastore, 0, 0, 0, 0), some (.iload_n 3, 0, 0, 0, 0), some (.ireturn, 0, 0, 0, 0)]
def zC_170_0 : List (Option zE) := [some (.iload_n 2, 0, 0, 0, 0), some (.iload_n 3, 0, 0, 0, 0), some (.invokestatic 107, 126, 1, 2, 130), none, none, some (.istore 4, 0, 0, 0, 0), none, some (.iload 4, 0, 0, 0, 0), none, some (.iconst (-1), 0, 0, 0, 0), some (.if_icmp .eq 17, 27, 0, 0, 0), none, none, some (.aload_n 0, 0, 0, 0, 0), some (.getfield 7, 11, 0, 0, 139), none, none, some (.bipush 100, 0, 0, 0, 0), none, some (.iload 4, 0, 0, 0, 0), none, some (.iadd, 0, 0, 0, 0), some (.iaload, 0, 0, 0, 0), some (.iconst 1, 0, 0, 0, 0), some (.if_icmp .ne 5, 29, 0, 0, 0), none, none, some (.iconst 0, 0, 0, 0, 0), some (.ireturn, 0, 0, 0, 0), some (.aload_n 0, 0, 0, 0, 0), some (.getfield 7, 11, 0, 0, 139), none, none, some (.sipush 574, 0, 0, 0, 0), none, none, some (.iload_n 1, 0, 0, 0, 0), some (.iadd, 0, 0, 0, 0), some (.iaload, 0, 0, 0, 0), some (.istore 5, 0, 0, 0, 0), none, some (.aload_n 0, 0, 0, 0, 0), some (.getfield 7, 11, 0, 0, 139), none, none, some (.bipush 25, 0, 0, 0, 0), none, some (.iload_n 2, 0, 0, 0, 0), some (.iadd, 0, 0, 0, 0), some (.iaload, 0, 0, 0, 0), some (.aload_n 0, 0, 0, 0, 0), some (.getfield 7, 11, 0, 0, 139), none, none, some (.iconst 0, 0, 0, 0, 0), some (.iload_n 2, 0, 0, 0, 0), some (.iadd, 0, 0, 0, 0), some (.iaload, 0, 0, 0, 0), some (.iadd, 0, 0, 0, 0), some (.iload 5, 0, 0, 0, 0), none, some (.if_icmp .lt 26, 87, 0, 0, 0), none, none, some (.aload_n 0, 0, 0, 0, 0), some (.getfield 7, 11, 0, 0, 139), none, none, some (.bipush 25, 0, 0, 0, 0), none, some (.iload_n 3, 0, 0, 0, 0), some (.iadd, 0, 0, 0, 0), some (.iaload, 0, 0, 0, 0), some (.aload_n 0, 0, 0, 0, 0), some (.getfield 7, 11, 0, 0, 139), none, none, some (.iconst 0, 0, 0, 0, 0), some (.iload_n 3, 0, 0, 0, 0), some (.iadd, 0, 0, 0, 0), some (.iaload, 0, 0, 0, 0), some (.iadd, 0, 0, 0, 0), some (.iload 5, 0, 0, 0, 0), none, some (.if_icmp .ge 5, 89, 0, 0, 0), none, none, some (.iconst 0, 0, 0, 0, 0), some (.ireturn, 0, 0, 0, 0), some (.aload_n 0, 0, 0, 0, 0), some (.getfield 7, 11, 0, 0, 139), none, none, some (.bipush 25, 0, 0, 0, 0), none, some (.iload_n 2, 0, 0, 0, 0), some (.iadd, 0, 0, 0, 0), some (.iaload, 0, 0, 0, 0), some (.aload_n 0, 0, 0, 0, 0), some (.getfield 7, 11, 0, 0, 139), none, none, some (.bipush 25, 0, 0, 0, 0), none, some (.iload_n 3, 0, 0, 0, 0), some (.iadd, 0, 0, 0, 0), some (.iaload, 0, 0, 0, 0), some (.if_icmp .le 15, 122, 0, 0, 0), none, none, some (.aload_n 0, 0, 0, 0, 0), some (.getfield 7, 11, 0, 0, 139), none, none, some (.bipush 25, 0, 0, 0, 0), none, some (.iload_n 2, 0, 0, 0, 0), some (.iadd, 0, 0, 0, 0), some (.iaload, 0, 0, 0, 0), some (.goto 12, 131, 0, 0, 0), none, none, some (.aload_n 0, 0, 0, 0, 0), some (.getfield 7, 11, 0, 0, 139), none, none, some (.bipush 25, 0, 0, 0, 0), none, some (.iload_n 3, 0, 0, 0, 0), some (.iadd, 0, 0, 0, 0), some (.iaload, 0, 0, 0, 0), some (.istore 6, 0, 0, 0, 0), none, some (.aload_n 0, 0, 0, 0, 0), some (.getfield 7, 11, 0, 0, 139), none, none, some (.sipush 200, 0, 0, 0, 0), none, none, some (.iload 4, 0, 0, 0, 0), none, some (.iadd, 0, 0, 0, 0), some (.iaload, 0, 0, 0, 0), some (.iconst (-1), 0, 0, 0, 0), some (.if_icmp .eq 30, 175, 0, 0, 0), none, none, some (.aload_n 0, 0, 0, 0, 0), some (.getfield 7, 11, 0, 0, 139)]
def zC_170_1 : List (Option zE) := [none, none, some (.sipush 580, 0, 0, 0, 0), none, none, some (.iload_n 1, 0, 0, 0, 0), some (.iadd, 0, 0, 0, 0), some (.iaload, 0, 0, 0, 0), some (.iload 6, 0, 0, 0, 0), none, some (.iadd, 0, 0, 0, 0), some (.aload_n 0, 0, 0, 0, 0), some (.getfield 7, 11, 0, 0, 139), none, none, some (.sipush 200, 0, 0, 0, 0), none, none, some (.iload 4, 0, 0, 0, 0), none, some (.iadd, 0, 0, 0, 0), some (.iaload, 0, 0, 0, 0), some (.if_icmp .gt 7, 179, 0, 0, 0), none, none, some (.iconst 1, 0, 0, 0, 0), some (.goto 4, 180, 0, 0, 0), none, none, some (.iconst 0, 0, 0, 0, 0), some (.ireturn, 0, 0, 0, 0)]
def zC_170 : List (Option zE) := zC_170_0 ++ (zC_170_1)
def zC_171 : List (Option zE) := [some (.iload_n 1, 0, 0, 0, 0), some (.ifCond .ne 9, 10, 0, 0, 0), none, none, some (.iload_n 0, 0, 0, 0, 0), some (.iconst 5, 0, 0, 0, 0), some (.isub, 0, 0, 0, 0), some (.goto 28, 35, 0, 0, 0), none, none, some (.iload_n 1, 0, 0, 0, 0), some (.iconst 1, 0, 0, 0, 0), some (.if_icmp .ne 9, 21, 0, 0, 0), none, none, some (.iload_n 0, 0, 0, 0, 0), some (.iconst 1, 0, 0, 0, 0), some (.isub, 0, 0, 0, 0), some (.goto 17, 35, 0, 0, 0), none, none, some (.iload_n 1, 0, 0, 0, 0), some (.iconst 2, 0, 0, 0, 0), some (.if_icmp .ne 9, 32, 0, 0, 0), none, none, some (.iload_n 0, 0, 0, 0, 0), some (.iconst 1, 0, 0, 0, 0), some (.iadd, 0, 0, 0, 0), some (.goto 6, 35, 0, 0, 0), none, none, some (.iload_n 0, 0, 0, 0, 0), some (.iconst 5, 0, 0, 0, 0), some (.iadd, 0, 0, 0, 0), some (.ireturn, 0, 0, 0, 0)]
def zC_172_0 : List (Option zE) := [some (.aload_n 0, 0, 0, 0, 0), some (.getfield 7, 11, 0, 0, 139), none, none, some (.sipush 598, 0, 0, 0, 0), none, none, some (.iload_n 1, 0, 0, 0, 0), some (.iadd, 0, 0, 0, 0), some (.iaload, 0, 0, 0, 0), some (.istore_n 2, 0, 0, 0, 0), some (.iload_n 2, 0, 0, 0, 0), some (.iconst (-1), 0, 0, 0, 0), some (.if_icmp .ne 5, 18, 0, 0, 0), none, none, some (.iconst (-1), 0, 0, 0, 0), some (.ireturn, 0, 0, 0, 0), some (.iconst 0, 0, 0, 0, 0), some (.istore_n 3, 0, 0, 0, 0), some (.iload_n 3, 0, 0, 0, 0), some (.bipush 25, 0, 0, 0, 0), none, some (.if_icmp .ge 16, 39, 0, 0, 0), none, none, some (.aload_n 0, 0, 0, 0, 0), some (.getfield 69, 11, 27, 0, 158), none, none, some (.iload_n 3, 0, 0, 0, 0), some (.iconst (-1), 0, 0, 0, 0), some (.iastore, 0, 0, 0, 0), some (.iinc 3 1, 0, 0, 0, 0), none, none, some (.goto (-16), 20, 0, 0, 0), none, none, some (.iconst 0, 0, 0, 0, 0), some (.istore_n 3, 0, 0, 0, 0), some (.aload_n 0, 0, 0, 0, 0), some (.getfield 69, 11, 27, 0, 158), none, none, some (.iload_n 2, 0, 0, 0, 0), some (.iconst 0, 0, 0, 0, 0), some (.iastore, 0, 0, 0, 0), some (.aload_n 0, 0, 0, 0, 0), some (.getfield 72, 11, 28, 0, 159), none, none, some (.iload_n 3, 0, 0, 0, 0), some (.iinc 3 1, 0, 0, 0, 0), none, none, some (.iload_n 2, 0, 0, 0, 0), some (.iastore, 0, 0, 0, 0), some (.iconst 0, 0, 0, 0, 0), some (.istore 4, 0, 0, 0, 0), none, some (.iload 4, 0, 0, 0, 0), none, some (.iload_n 3, 0, 0, 0, 0), some (.if_icmp .ge 101, 165, 0, 0, 0), none, none, some (.iconst 0, 0, 0, 0, 0), some (.istore 5, 0, 0, 0, 0), none, some (.iload 5, 0, 0, 0, 0), none, some (.iconst 4, 0, 0, 0, 0), some (.if_icmp .ge 86, 159, 0, 0, 0), none, none, some (.aload_n 0, 0, 0, 0, 0), some (.getfield 72, 11, 28, 0, 159), none, none, some (.iload 4, 0, 0, 0, 0), none, some (.iaload, 0, 0, 0, 0), some (.iload 5, 0, 0, 0, 0), none, some (.invokestatic 201, 171, 1, 2, 149), none, none, some (.istore 6, 0, 0, 0, 0), none, some (.aload_n 0, 0, 0, 0, 0), some (.iload_n 1, 0, 0, 0, 0), some (.aload_n 0, 0, 0, 0, 0), some (.getfield 72, 11, 28, 0, 159), none, none, some (.iload 4, 0, 0, 0, 0), none, some (.iaload, 0, 0, 0, 0), some (.iload 6, 0, 0, 0, 0), none, some (.invokevirtual 204, 170, 0, 4, 150), none, none, some (.ifCond .eq 49, 153, 0, 0, 0), none, none, some (.aload_n 0, 0, 0, 0, 0), some (.getfield 69, 11, 27, 0, 158), none, none, some (.iload 6, 0, 0, 0, 0), none, some (.iaload, 0, 0, 0, 0), some (.iconst (-1), 0, 0, 0, 0), some (.if_icmp .eq 6, 121, 0, 0, 0), none, none, some (.goto 35, 153, 0, 0, 0), none, none, some (.aload_n 0, 0, 0, 0, 0), some (.getfield 69, 11, 27, 0, 158), none, none, some (.iload 6, 0, 0, 0, 0), none, some (.aload_n 0, 0, 0, 0, 0), some (.getfield 69, 11, 27, 0, 158), none, none, some (.aload_n 0, 0, 0, 0, 0), some (.getfield 72, 11, 28, 0, 159), none, none, some (.iload 4, 0, 0, 0, 0), none, some (.iaload, 0, 0, 0, 0), some (.iaload, 0, 0, 0, 0), some (.iconst 1, 0, 0, 0, 0), some (.iadd, 0, 0, 0, 0), some (.iastore, 0, 0, 0, 0), some (.aload_n 0, 0, 0, 0, 0), some (.getfield 72, 11, 28, 0, 159), none, none, some (.iload_n 3, 0, 0, 0, 0), some (.iinc 3 1, 0, 0, 0, 0), none, none]
def zC_172_1 : List (Option zE) := [some (.iload 6, 0, 0, 0, 0), none, some (.iastore, 0, 0, 0, 0), some (.iinc 5 1, 0, 0, 0, 0), none, none, some (.goto (-86), 70, 0, 0, 0), none, none, some (.iinc 4 1, 0, 0, 0, 0), none, none, some (.goto (-101), 61, 0, 0, 0), none, none, some (.aload_n 0, 0, 0, 0, 0), some (.getfield 7, 11, 0, 0, 139), none, none, some (.sipush 568, 0, 0, 0, 0), none, none, some (.iload_n 1, 0, 0, 0, 0), some (.iadd, 0, 0, 0, 0), some (.iaload, 0, 0, 0, 0), some (.istore 4, 0, 0, 0, 0), none, some (.iconst 0, 0, 0, 0, 0), some (.istore 5, 0, 0, 0, 0), none, some (.iload 5, 0, 0, 0, 0), none, some (.iconst 4, 0, 0, 0, 0), some (.if_icmp .ge 62, 245, 0, 0, 0), none, none, some (.aload_n 0, 0, 0, 0, 0), some (.getfield 69, 11, 27, 0, 158), none, none, some (.iload 4, 0, 0, 0, 0), none, some (.iaload, 0, 0, 0, 0), some (.ifCond .le 52, 245, 0, 0, 0), none, none, some (.iload 4, 0, 0, 0, 0), none, some (.iload 5, 0, 0, 0, 0), none, some (.invokestatic 201, 171, 1, 2, 149), none, none, some (.istore 6, 0, 0, 0, 0), none, some (.aload_n 0, 0, 0, 0, 0), some (.iload_n 1, 0, 0, 0, 0), some (.iload 4, 0, 0, 0, 0), none, some (.iload 6, 0, 0, 0, 0), none, some (.invokevirtual 204, 170, 0, 4, 150), none, none, some (.ifCond .eq 25, 239, 0, 0, 0), none, none, some (.aload_n 0, 0, 0, 0, 0), some (.getfield 69, 11, 27, 0, 158), none, none, some (.iload 6, 0, 0, 0, 0), none, some (.iaload, 0, 0, 0, 0), some (.aload_n 0, 0, 0, 0, 0), some (.getfield 69, 11, 27, 0, 158), none, none, some (.iload 4, 0, 0, 0, 0), none, some (.iaload, 0, 0, 0, 0), some (.iconst 1, 0, 0, 0, 0), some (.isub, 0, 0, 0, 0), some (.if_icmp .ne 6, 239, 0, 0, 0), none, none, some (.iload 6, 0, 0, 0, 0), none, some (.ireturn, 0, 0, 0, 0), some (.iinc 5 1, 0, 0, 0, 0), none, none, some (.goto (-62), 180, 0, 0, 0), none, none, some (.iconst (-1), 0, 0, 0, 0), some (.ireturn, 0, 0, 0, 0)]
def zC_172 : List (Option zE) := zC_172_0 ++ (zC_172_1)
def zC_173 : List (Option zE) := [some (.aload_n 0, 0, 0, 0, 0), some (.iload_n 1, 0, 0, 0, 0), some (.invokevirtual 198, 167, 0, 2, 148), none, none, some (.ifCond .eq 11, 16, 0, 0, 0), none, none, some (.aload_n 0, 0, 0, 0, 0), some (.iload_n 1, 0, 0, 0, 0), some (.invokevirtual 208, 172, 0, 2, 151), none, none, some (.goto 4, 17, 0, 0, 0), none, none, some (.iconst (-1), 0, 0, 0, 0), some (.ireturn, 0, 0, 0, 0)]
def zC_174 : List (Option zE) := [some (.aload_n 0, 0, 0, 0, 0), some (.iload_n 1, 0, 0, 0, 0), some (.invokevirtual 198, 167, 0, 2, 148), none, none, some (.ifCond .ne 5, 10, 0, 0, 0), none, none, some (.iconst (-1), 0, 0, 0, 0), some (.ireturn, 0, 0, 0, 0), some (.iload_n 2, 0, 0, 0, 0), some (.tableswitch 103 0 5 #[37, 48, 59, 70, 81, 92], 0, 0, 0, 0), none, none, none, none, none, none, none, none, none, none, none, none, none, none, none, none, none, none, none, none, none, none, none, none, none, none, none, none, none, none, none, none, none, none, none, none, some (.aload_n 0, 0, 0, 0, 0), some (.getfield 7, 11, 0, 0, 139), none, none, some (.sipush 568, 0, 0, 0, 0), none, none, some (.iload_n 1, 0, 0, 0, 0), some (.iadd, 0, 0, 0, 0), some (.iaload, 0, 0, 0, 0), some (.ireturn, 0, 0, 0, 0), some (.aload_n 0, 0, 0, 0, 0), some (.getfield 7, 11, 0, 0, 139), none, none, some (.sipush 598, 0, 0, 0, 0), none, none, some (.iload_n 1, 0, 0, 0, 0), some (.iadd, 0, 0, 0, 0), some (.iaload, 0, 0, 0, 0), some (.ireturn, 0, 0, 0, 0), some (.aload_n 0, 0, 0, 0, 0), some (.getfield 7, 11, 0, 0, 139), none, none, some (.sipush 604, 0, 0, 0, 0), none, none, some (.iload_n 1, 0, 0, 0, 0), some (.iadd, 0, 0, 0, 0), some (.iaload, 0, 0, 0, 0), some (.ireturn, 0, 0, 0, 0), some (.aload_n 0, 0, 0, 0, 0), some (.getfield 7, 11, 0, 0, 139), none, none, some (.sipush 610, 0, 0, 0, 0), none, none, some (.iload_n 1, 0, 0, 0, 0), some (.iadd, 0, 0, 0, 0), some (.iaload, 0, 0, 0, 0), some (.ireturn, 0, 0, 0, 0), some (.aload_n 0, 0, 0, 0, 0), some (.getfield 7, 11, 0, 0, 139), none, none, some (.sipush 616, 0, 0, 0, 0), none, none, some (.iload_n 1, 0, 0, 0, 0), some (.iadd, 0, 0, 0, 0), some (.iaload, 0, 0, 0, 0), some (.ireturn, 0, 0, 0, 0), some (.aload_n 0, 0, 0, 0, 0), some (.getfield 7, 11, 0, 0, 139), none, none, some (.sipush 622, 0, 0, 0, 0), none, none, some (.iload_n 1, 0, 0, 0, 0), some (.iadd, 0, 0, 0, 0), some (.iaload, 0, 0, 0, 0), some (.ireturn, 0, 0, 0, 0), some (.iconst (-1), 0, 0, 0, 0), some (.ireturn, 0, 0, 0, 0)]
def zC_175_0 : List (Option zE) := [some (.iconst 0, 0, 0, 0, 0), some (.istore_n 2, 0, 0, 0, 0), some (.iload_n 2, 0, 0, 0, 0), some (.aload_n 0, 0, 0, 0, 0), some (.getfield 7, 11, 0, 0, 139), none, none, some (.sipush 633, 0, 0, 0, 0), none, none, some (.iaload, 0, 0, 0, 0), some (.if_icmp .ge 111, 122, 0, 0, 0), none, none, some (.iconst 0, 0, 0, 0, 0), some (.istore_n 3, 0, 0, 0, 0), some (.iconst 0, 0, 0, 0, 0), some (.istore 4, 0, 0, 0, 0), none, some (.iconst 0, 0, 0, 0, 0), some (.istore 5, 0, 0, 0, 0), none, some (.iload 5, 0, 0, 0, 0), none, some (.aload_n 0, 0, 0, 0, 0), some (.getfield 7, 11, 0, 0, 139), none, none, some (.sipush 640, 0, 0, 0, 0), none, none, some (.iaload, 0, 0, 0, 0), some (.if_icmp .ge 60, 92, 0, 0, 0), none, none, some (.aload_n 0, 0, 0, 0, 0), some (.getfield 7, 11, 0, 0, 139), none, none, some (.sipush 628, 0, 0, 0, 0), none, none, some (.iload 5, 0, 0, 0, 0), none, some (.iadd, 0, 0, 0, 0), some (.iaload, 0, 0, 0, 0), some (.ifCond .eq 40, 86, 0, 0, 0), none, none, some (.aload_n 0, 0, 0, 0, 0), some (.getfield 38, 11, 10, 0, 148), none, none, some (.iload 5, 0, 0, 0, 0), none, some (.iaload, 0, 0, 0, 0), some (.iload_n 2, 0, 0, 0, 0), some (.if_icmp .eq 6, 63, 0, 0, 0), none, none, some (.goto 26, 86, 0, 0, 0), none, none, some (.iconst 1, 0, 0, 0, 0), some (.istore_n 3, 0, 0, 0, 0), some (.iload 4, 0, 0, 0, 0), none, some (.ifCond .ne 12, 79, 0, 0, 0), none, none, some (.aload_n 0, 0, 0, 0, 0), some (.iload 5, 0, 0, 0, 0), none, some (.invokevirtual 195, 162, 0, 2, 147), none, none, some (.ifCond .eq 7, 83, 0, 0, 0), none, none, some (.iconst 1, 0, 0, 0, 0), some (.goto 4, 84, 0, 0, 0), none, none, some (.iconst 0, 0, 0, 0, 0), some (.istore 4, 0, 0, 0, 0), none, some (.iinc 5 1, 0, 0, 0, 0), none, none, some (.goto (-67), 22, 0, 0, 0), none, none, some (.iload_n 3, 0, 0, 0, 0), some (.ifCond .eq 23, 116, 0, 0, 0), none, none, some (.aload_n 0, 0, 0, 0, 0), some (.getfield 7, 11, 0, 0, 139), none, none, some (.sipush 253, 0, 0, 0, 0), none, none, some (.iload_n 2, 0, 0, 0, 0), some (.iadd, 0, 0, 0, 0), some (.iload 4, 0, 0, 0, 0), none, some (.ifCond .eq 7, 114, 0, 0, 0), none, none, some (.iconst 1, 0, 0, 0, 0), some (.goto 4, 115, 0, 0, 0), none, none, some (.iconst 0, 0, 0, 0, 0), some (.iastore, 0, 0, 0, 0), some (.iinc 2 1, 0, 0, 0, 0), none, none, some (.goto (-117), 2, 0, 0, 0), none, none, some (.aload_n 0, 0, 0, 0, 0), some (.aload_n 0, 0, 0, 0, 0), some (.invokevirtual 186, 159, 0, 1, 144), none, none, some (.putfield 211, 11, 33, 0, 175), none, none, some (.aload_n 0, 0, 0, 0, 0), some (.aload_n 0, 0, 0, 0, 0), some (.getfield 7, 11, 0, 0, 139), none, none, some (.sipush 634, 0, 0, 0, 0), none, none, some (.iaload, 0, 0, 0, 0), some (.iload_n 1, 0, 0, 0, 0), some (.invokevirtual 134, 145, 0, 3, 135), none, none, some (.istore_n 2, 0, 0, 0, 0), some (.iconst 0, 0, 0, 0, 0), some (.istore_n 3, 0, 0, 0, 0), some (.iload_n 3, 0, 0, 0, 0), some (.aload_n 0, 0, 0, 0, 0), some (.getfield 7, 11, 0, 0, 139), none]
def zC_175_1 : List (Option zE) := [none, some (.sipush 633, 0, 0, 0, 0), none, none, some (.iaload, 0, 0, 0, 0), some (.if_icmp .ge 79, 234, 0, 0, 0), none, none, some (.aload_n 0, 0, 0, 0, 0), some (.getfield 7, 11, 0, 0, 139), none, none, some (.sipush 253, 0, 0, 0, 0), none, none, some (.iload_n 3, 0, 0, 0, 0), some (.iadd, 0, 0, 0, 0), some (.iaload, 0, 0, 0, 0), some (.iconst 1, 0, 0, 0, 0), some (.if_icmp .ne 6, 175, 0, 0, 0), none, none, some (.goto 56, 228, 0, 0, 0), none, none, some (.bipush 25, 0, 0, 0, 0), none, some (.aload_n 0, 0, 0, 0, 0), some (.getfield 7, 11, 0, 0, 139), none, none, some (.sipush 250, 0, 0, 0, 0), none, none, some (.iload_n 3, 0, 0, 0, 0), some (.iadd, 0, 0, 0, 0), some (.iaload, 0, 0, 0, 0), some (.iadd, 0, 0, 0, 0), some (.istore 4, 0, 0, 0, 0), none, some (.iload_n 2, 0, 0, 0, 0), some (.aload_n 0, 0, 0, 0, 0), some (.getfield 7, 11, 0, 0, 139), none, none, some (.iload 4, 0, 0, 0, 0), none, some (.iaload, 0, 0, 0, 0), some (.isub, 0, 0, 0, 0), some (.iconst 2, 0, 0, 0, 0), some (.idiv, 0, 0, 0, 0), some (.istore 5, 0, 0, 0, 0), none, some (.aload_n 0, 0, 0, 0, 0), some (.getfield 7, 11, 0, 0, 139), none, none, some (.iload 4, 0, 0, 0, 0), none, some (.dup2, 0, 0, 0, 0), some (.iaload, 0, 0, 0, 0), some (.iload 5, 0, 0, 0, 0), none, some (.iadd, 0, 0, 0, 0), some (.iastore, 0, 0, 0, 0), some (.aload_n 0, 0, 0, 0, 0), some (.getfield 7, 11, 0, 0, 139), none, none, some (.sipush 645, 0, 0, 0, 0), none, none, some (.dup2, 0, 0, 0, 0), some (.iaload, 0, 0, 0, 0), some (.iload 5, 0, 0, 0, 0), none, some (.iadd, 0, 0, 0, 0), some (.iastore, 0, 0, 0, 0), some (.iinc 3 1, 0, 0, 0, 0), none, none, some (.goto (-85), 146, 0, 0, 0), none, none, some (.iconst 0, 0, 0, 0, 0), some (.istore_n 3, 0, 0, 0, 0), some (.iload_n 3, 0, 0, 0, 0), some (.bipush 25, 0, 0, 0, 0), none, some (.if_icmp .ge 16, 255, 0, 0, 0), none, none, some (.aload_n 0, 0, 0, 0, 0), some (.getfield 75, 11, 29, 0, 160), none, none, some (.iload_n 3, 0, 0, 0, 0), some (.iconst 0, 0, 0, 0, 0), some (.iastore, 0, 0, 0, 0), some (.iinc 3 1, 0, 0, 0, 0), none, none, some (.goto (-16), 236, 0, 0, 0), none, none, some (.iconst 0, 0, 0, 0, 0), some (.istore_n 3, 0, 0, 0, 0), some (.iload_n 3, 0, 0, 0, 0), some (.bipush 25, 0, 0, 0, 0), none, some (.if_icmp .ge 161, 421, 0, 0, 0), none, none, some (.iconst 2, 0, 0, 0, 0), some (.istore 4, 0, 0, 0, 0), none, some (.iload 4, 0, 0, 0, 0), none, some (.iconst 4, 0, 0, 0, 0), some (.if_icmp .ge 146, 415, 0, 0, 0), none, none, some (.iload_n 3, 0, 0, 0, 0), some (.iload 4, 0, 0, 0, 0), none, some (.invokestatic 201, 171, 1, 2, 149), none, none, some (.istore 5, 0, 0, 0, 0), none, some (.iload_n 3, 0, 0, 0, 0), some (.iload 5, 0, 0, 0, 0), none, some (.invokestatic 107, 126, 1, 2, 130), none, none, some (.istore 6, 0, 0, 0, 0), none, some (.iload 6, 0, 0, 0, 0), none, some (.iconst (-1), 0, 0, 0, 0), some (.if_icmp .eq 118, 409, 0, 0, 0), none, none, some (.aload_n 0, 0, 0, 0, 0), some (.getfield 7, 11, 0, 0, 139), none, none, some (.bipush 100, 0, 0, 0, 0), none]
def zC_175_2 : List (Option zE) := [some (.iload 6, 0, 0, 0, 0), none, some (.iadd, 0, 0, 0, 0), some (.iaload, 0, 0, 0, 0), some (.iconst 1, 0, 0, 0, 0), some (.if_icmp .ne 6, 311, 0, 0, 0), none, none, some (.goto 101, 409, 0, 0, 0), none, none, some (.aload_n 0, 0, 0, 0, 0), some (.getfield 7, 11, 0, 0, 139), none, none, some (.bipush 25, 0, 0, 0, 0), none, some (.iload_n 3, 0, 0, 0, 0), some (.iadd, 0, 0, 0, 0), some (.iaload, 0, 0, 0, 0), some (.aload_n 0, 0, 0, 0, 0), some (.getfield 7, 11, 0, 0, 139), none, none, some (.bipush 25, 0, 0, 0, 0), none, some (.iload 5, 0, 0, 0, 0), none, some (.iadd, 0, 0, 0, 0), some (.iaload, 0, 0, 0, 0), some (.isub, 0, 0, 0, 0), some (.iconst 4, 0, 0, 0, 0), some (.idiv, 0, 0, 0, 0), some (.istore 7, 0, 0, 0, 0), none, some (.aload_n 0, 0, 0, 0, 0), some (.getfield 75, 11, 29, 0, 160), none, none, some (.iload_n 3, 0, 0, 0, 0), some (.dup2, 0, 0, 0, 0), some (.iaload, 0, 0, 0, 0), some (.iload 7, 0, 0, 0, 0), none, some (.isub, 0, 0, 0, 0), some (.iastore, 0, 0, 0, 0), some (.aload_n 0, 0, 0, 0, 0), some (.getfield 75, 11, 29, 0, 160), none, none, some (.iload 5, 0, 0, 0, 0), none, some (.dup2, 0, 0, 0, 0), some (.iaload, 0, 0, 0, 0), some (.iload 7, 0, 0, 0, 0), none, some (.iadd, 0, 0, 0, 0), some (.iastore, 0, 0, 0, 0), some (.aload_n 0, 0, 0, 0, 0), some (.getfield 7, 11, 0, 0, 139), none, none, some (.bipush 75, 0, 0, 0, 0), none, some (.iload_n 3, 0, 0, 0, 0), some (.iadd, 0, 0, 0, 0), some (.dup2, 0, 0, 0, 0), some (.iaload, 0, 0, 0, 0), some (.iload 7, 0, 0, 0, 0), none, some (.ifCond .ge 9, 379, 0, 0, 0), none, none, some (.iload 7, 0, 0, 0, 0), none, some (.ineg, 0, 0, 0, 0), some (.goto 5, 381, 0, 0, 0), none, none, some (.iload 7, 0, 0, 0, 0), none, some (.iadd, 0, 0, 0, 0), some (.iastore, 0, 0, 0, 0), some (.aload_n 0, 0, 0, 0, 0), some (.getfield 7, 11, 0, 0, 139), none, none, some (.bipush 75, 0, 0, 0, 0), none, some (.iload 5, 0, 0, 0, 0), none, some (.iadd, 0, 0, 0, 0), some (.dup2, 0, 0, 0, 0), some (.iaload, 0, 0, 0, 0), some (.iload 7, 0, 0, 0, 0), none, some (.ifCond .ge 9, 405, 0, 0, 0), none, none, some (.iload 7, 0, 0, 0, 0), none, some (.ineg, 0, 0, 0, 0), some (.goto 5, 407, 0, 0, 0), none, none, some (.iload 7, 0, 0, 0, 0), none, some (.iadd, 0, 0, 0, 0), some (.iastore, 0, 0, 0, 0), some (.iinc 4 1, 0, 0, 0, 0), none, none, some (.goto (-146), 266, 0, 0, 0), none, none, some (.iinc 3 1, 0, 0, 0, 0), none, none, some (.goto (-161), 257, 0, 0, 0), none, none, some (.iconst 0, 0, 0, 0, 0), some (.istore_n 3, 0, 0, 0, 0), some (.iload_n 3, 0, 0, 0, 0), some (.bipush 25, 0, 0, 0, 0), none, some (.if_icmp .ge 27, 453, 0, 0, 0), none, none, some (.aload_n 0, 0, 0, 0, 0), some (.getfield 7, 11, 0, 0, 139), none, none, some (.bipush 25, 0, 0, 0, 0), none, some (.iload_n 3, 0, 0, 0, 0), some (.iadd, 0, 0, 0, 0), some (.dup2, 0, 0, 0, 0), some (.iaload, 0, 0, 0, 0), some (.aload_n 0, 0, 0, 0, 0), some (.getfield 75, 11, 29, 0, 160), none, none, some (.iload_n 3, 0, 0, 0, 0), some (.iaload, 0, 0, 0, 0), some (.iadd, 0, 0, 0, 0), some (.iastore, 0, 0, 0, 0), some (.iinc 3 1, 0, 0, 0, 0), none, none]
def zC_175_3 : List (Option zE) := [some (.goto (-27), 423, 0, 0, 0), none, none, some (.return_, 0, 0, 0, 0)]
def zC_175 : List (Option zE) := zC_175_0 ++ (zC_175_1 ++ (zC_175_2 ++ (zC_175_3)))
def zC_176_0 : List (Option zE) := [some (.aload_n 0, 0, 0, 0, 0), some (.iload_n 1, 0, 0, 0, 0), some (.invokevirtual 208, 172, 0, 2, 151), none, none, some (.istore_n 2, 0, 0, 0, 0), some (.aload_n 0, 0, 0, 0, 0), some (.getfield 7, 11, 0, 0, 139), none, none, some (.sipush 568, 0, 0, 0, 0), none, none, some (.iload_n 1, 0, 0, 0, 0), some (.iadd, 0, 0, 0, 0), some (.iaload, 0, 0, 0, 0), some (.istore_n 3, 0, 0, 0, 0), some (.iload_n 2, 0, 0, 0, 0), some (.iconst (-1), 0, 0, 0, 0), some (.if_icmp .ne 7, 26, 0, 0, 0), none, none, some (.iconst (-1), 0, 0, 0, 0), some (.goto 8, 31, 0, 0, 0), none, none, some (.iload_n 3, 0, 0, 0, 0), some (.iload_n 2, 0, 0, 0, 0), some (.invokestatic 107, 126, 1, 2, 130), none, none, some (.istore 4, 0, 0, 0, 0), none, some (.iload 4, 0, 0, 0, 0), none, some (.iconst (-1), 0, 0, 0, 0), some (.if_icmp .eq 29, 65, 0, 0, 0), none, none, some (.aload_n 0, 0, 0, 0, 0), some (.getfield 7, 11, 0, 0, 139), none, none, some (.sipush 150, 0, 0, 0, 0), none, none, some (.iload 4, 0, 0, 0, 0), none, some (.iadd, 0, 0, 0, 0), some (.iaload, 0, 0, 0, 0), some (.iconst 1, 0, 0, 0, 0), some (.if_icmp .ne 39, 90, 0, 0, 0), none, none, some (.aload_n 0, 0, 0, 0, 0), some (.getfield 78, 11, 30, 0, 161), none, none, some (.iload 4, 0, 0, 0, 0), none, some (.iaload, 0, 0, 0, 0), some (.iconst 1, 0, 0, 0, 0), some (.if_icmp .ne 28, 90, 0, 0, 0), none, none, some (.aload_n 0, 0, 0, 0, 0), some (.getfield 7, 11, 0, 0, 139), none, none, some (.sipush 604, 0, 0, 0, 0), none, none, some (.iload_n 1, 0, 0, 0, 0), some (.iadd, 0, 0, 0, 0), some (.dup2, 0, 0, 0, 0), some (.iaload, 0, 0, 0, 0), some (.iconst 1, 0, 0, 0, 0), some (.iadd, 0, 0, 0, 0), some (.iastore, 0, 0, 0, 0), some (.aload_n 0, 0, 0, 0, 0), some (.dup, 0, 0, 0, 0), some (.getfield 214, 11, 31, 0, 176), none, none, some (.iconst 1, 0, 0, 0, 0), some (.iadd, 0, 0, 0, 0), some (.putfield 214, 11, 31, 0, 176), none, none, some (.return_, 0, 0, 0, 0), some (.aload_n 0, 0, 0, 0, 0), some (.getfield 78, 11, 30, 0, 161), none, none, some (.iload 4, 0, 0, 0, 0), none, some (.iconst 1, 0, 0, 0, 0), some (.iastore, 0, 0, 0, 0), some (.aload_n 0, 0, 0, 0, 0), some (.getfield 7, 11, 0, 0, 139), none, none, some (.sipush 568, 0, 0, 0, 0), none, none, some (.iload_n 1, 0, 0, 0, 0), some (.iadd, 0, 0, 0, 0), some (.iload_n 2, 0, 0, 0, 0), some (.iastore, 0, 0, 0, 0), some (.aload_n 0, 0, 0, 0, 0), some (.getfield 7, 11, 0, 0, 139), none, none, some (.sipush 622, 0, 0, 0, 0), none, none, some (.iload_n 1, 0, 0, 0, 0), some (.iadd, 0, 0, 0, 0), some (.dup2, 0, 0, 0, 0), some (.iaload, 0, 0, 0, 0), some (.iconst 1, 0, 0, 0, 0), some (.iadd, 0, 0, 0, 0), some (.iastore, 0, 0, 0, 0), some (.aload_n 0, 0, 0, 0, 0), some (.getfield 7, 11, 0, 0, 139), none, none, some (.sipush 586, 0, 0, 0, 0), none, none, some (.iload_n 1, 0, 0, 0, 0), some (.iadd, 0, 0, 0, 0), some (.iaload, 0, 0, 0, 0), some (.aload_n 0, 0, 0, 0, 0), some (.getfield 7, 11, 0, 0, 139), none, none, some (.sipush 638, 0, 0, 0, 0), none, none, some (.iaload, 0, 0, 0, 0), some (.if_icmp .ge 16, 157, 0, 0, 0), none, none, some (.aload_n 0, 0, 0, 0, 0), some (.getfield 7, 11, 0, 0, 139), none, none, some (.sipush 586, 0, 0, 0, 0), none]
def zC_176_1 : List (Option zE) := [none, some (.iload_n 1, 0, 0, 0, 0), some (.iadd, 0, 0, 0, 0), some (.iaload, 0, 0, 0, 0), some (.goto 11, 165, 0, 0, 0), none, none, some (.aload_n 0, 0, 0, 0, 0), some (.getfield 7, 11, 0, 0, 139), none, none, some (.sipush 638, 0, 0, 0, 0), none, none, some (.iaload, 0, 0, 0, 0), some (.istore 5, 0, 0, 0, 0), none, some (.iload 5, 0, 0, 0, 0), none, some (.iload 5, 0, 0, 0, 0), none, some (.imul, 0, 0, 0, 0), some (.iconst 4, 0, 0, 0, 0), some (.idiv, 0, 0, 0, 0), some (.istore 6, 0, 0, 0, 0), none, some (.iload 6, 0, 0, 0, 0), none, some (.aload_n 0, 0, 0, 0, 0), some (.getfield 7, 11, 0, 0, 139), none, none, some (.bipush 50, 0, 0, 0, 0), none, some (.iload_n 2, 0, 0, 0, 0), some (.iadd, 0, 0, 0, 0), some (.iaload, 0, 0, 0, 0), some (.if_icmp .le 14, 201, 0, 0, 0), none, none, some (.aload_n 0, 0, 0, 0, 0), some (.getfield 7, 11, 0, 0, 139), none, none, some (.bipush 50, 0, 0, 0, 0), none, some (.iload_n 2, 0, 0, 0, 0), some (.iadd, 0, 0, 0, 0), some (.iaload, 0, 0, 0, 0), some (.istore 6, 0, 0, 0, 0), none, some (.aload_n 0, 0, 0, 0, 0), some (.getfield 7, 11, 0, 0, 139), none, none, some (.bipush 50, 0, 0, 0, 0), none, some (.iload_n 2, 0, 0, 0, 0), some (.iadd, 0, 0, 0, 0), some (.dup2, 0, 0, 0, 0), some (.iaload, 0, 0, 0, 0), some (.iload 6, 0, 0, 0, 0), none, some (.isub, 0, 0, 0, 0), some (.iastore, 0, 0, 0, 0), some (.aload_n 0, 0, 0, 0, 0), some (.getfield 7, 11, 0, 0, 139), none, none, some (.sipush 616, 0, 0, 0, 0), none, none, some (.iload_n 1, 0, 0, 0, 0), some (.iadd, 0, 0, 0, 0), some (.dup2, 0, 0, 0, 0), some (.iaload, 0, 0, 0, 0), some (.iload 6, 0, 0, 0, 0), none, some (.iadd, 0, 0, 0, 0), some (.iastore, 0, 0, 0, 0), some (.iload_n 2, 0, 0, 0, 0), some (.aload_n 0, 0, 0, 0, 0), some (.getfield 7, 11, 0, 0, 139), none, none, some (.sipush 598, 0, 0, 0, 0), none, none, some (.iload_n 1, 0, 0, 0, 0), some (.iadd, 0, 0, 0, 0), some (.iaload, 0, 0, 0, 0), some (.if_icmp .ne 28, 269, 0, 0, 0), none, none, some (.aload_n 0, 0, 0, 0, 0), some (.getfield 7, 11, 0, 0, 139), none, none, some (.sipush 598, 0, 0, 0, 0), none, none, some (.iload_n 1, 0, 0, 0, 0), some (.iadd, 0, 0, 0, 0), some (.iconst (-1), 0, 0, 0, 0), some (.iastore, 0, 0, 0, 0), some (.aload_n 0, 0, 0, 0, 0), some (.getfield 7, 11, 0, 0, 139), none, none, some (.sipush 610, 0, 0, 0, 0), none, none, some (.iload_n 1, 0, 0, 0, 0), some (.iadd, 0, 0, 0, 0), some (.dup2, 0, 0, 0, 0), some (.iaload, 0, 0, 0, 0), some (.iconst 1, 0, 0, 0, 0), some (.iadd, 0, 0, 0, 0), some (.iastore, 0, 0, 0, 0), some (.return_, 0, 0, 0, 0)]
def zC_176 : List (Option zE) := zC_176_0 ++ (zC_176_1)
def zC_177_0 : List (Option zE) := [some (.iconst 0, 0, 0, 0, 0), some (.istore_n 2, 0, 0, 0, 0), some (.iload_n 2, 0, 0, 0, 0), some (.bipush 50, 0, 0, 0, 0), none, some (.if_icmp .ge 16, 21, 0, 0, 0), none, none, some (.aload_n 0, 0, 0, 0, 0), some (.getfield 78, 11, 30, 0, 161), none, none, some (.iload_n 2, 0, 0, 0, 0), some (.iconst 0, 0, 0, 0, 0), some (.iastore, 0, 0, 0, 0), some (.iinc 2 1, 0, 0, 0, 0), none, none, some (.goto (-16), 2, 0, 0, 0), none, none, some (.bipush 9, 0, 0, 0, 0), none, some (.istore_n 2, 0, 0, 0, 0), some (.iload_n 2, 0, 0, 0, 0), some (.ifCond .lt 62, 87, 0, 0, 0), none, none, some (.iconst 0, 0, 0, 0, 0), some (.istore_n 3, 0, 0, 0, 0), some (.iload_n 3, 0, 0, 0, 0), some (.aload_n 0, 0, 0, 0, 0), some (.getfield 7, 11, 0, 0, 139), none, none, some (.sipush 642, 0, 0, 0, 0), none, none, some (.iaload, 0, 0, 0, 0), some (.if_icmp .ge 42, 81, 0, 0, 0), none, none, some (.aload_n 0, 0, 0, 0, 0), some (.getfield 7, 11, 0, 0, 139), none, none, some (.sipush 592, 0, 0, 0, 0), none, none, some (.iload_n 3, 0, 0, 0, 0), some (.iadd, 0, 0, 0, 0), some (.iaload, 0, 0, 0, 0), some (.iload_n 2, 0, 0, 0, 0), some (.if_icmp .ne 22, 75, 0, 0, 0), none, none, some (.aload_n 0, 0, 0, 0, 0), some (.getfield 7, 11, 0, 0, 139), none, none, some (.sipush 598, 0, 0, 0, 0), none, none, some (.iload_n 3, 0, 0, 0, 0), some (.iadd, 0, 0, 0, 0), some (.iaload, 0, 0, 0, 0), some (.iconst (-1), 0, 0, 0, 0), some (.if_icmp .eq 8, 75, 0, 0, 0), none, none, some (.aload_n 0, 0, 0, 0, 0), some (.iload_n 3, 0, 0, 0, 0), some (.invokevirtual 217, 176, 0, 2, 152), none, none, some (.iinc 3 1, 0, 0, 0, 0), none, none, some (.goto (-48), 30, 0, 0, 0), none, none, some (.iinc 2 (-1), 0, 0, 0, 0), none, none, some (.goto (-60), 24, 0, 0, 0), none, none, some (.iconst 0, 0, 0, 0, 0), some (.istore_n 2, 0, 0, 0, 0), some (.iconst 0, 0, 0, 0, 0), some (.istore_n 3, 0, 0, 0, 0), some (.iload_n 3, 0, 0, 0, 0), some (.aload_n 0, 0, 0, 0, 0), some (.getfield 7, 11, 0, 0, 139), none, none, some (.sipush 641, 0, 0, 0, 0), none, none, some (.iaload, 0, 0, 0, 0), some (.if_icmp .ge 218, 318, 0, 0, 0), none, none, some (.aload_n 0, 0, 0, 0, 0), some (.getfield 7, 11, 0, 0, 139), none, none, some (.bipush 25, 0, 0, 0, 0), none, some (.aload_n 0, 0, 0, 0, 0), some (.getfield 7, 11, 0, 0, 139), none, none, some (.sipush 460, 0, 0, 0, 0), none, none, some (.iload_n 3, 0, 0, 0, 0), some (.iadd, 0, 0, 0, 0), some (.iaload, 0, 0, 0, 0), some (.iadd, 0, 0, 0, 0), some (.iaload, 0, 0, 0, 0), some (.aload_n 0, 0, 0, 0, 0), some (.getfield 7, 11, 0, 0, 139), none, none, some (.sipush 472, 0, 0, 0, 0), none, none, some (.iload_n 3, 0, 0, 0, 0), some (.iadd, 0, 0, 0, 0), some (.iaload, 0, 0, 0, 0), some (.aload_n 0, 0, 0, 0, 0), some (.getfield 7, 11, 0, 0, 139), none, none, some (.sipush 508, 0, 0, 0, 0), none, none, some (.iload_n 3, 0, 0, 0, 0), some (.iadd, 0, 0, 0, 0), some (.iaload, 0, 0, 0, 0), some (.isub, 0, 0, 0, 0), some (.if_icmp .le 7, 149, 0, 0, 0), none, none, some (.iconst 1, 0, 0, 0, 0), some (.goto 4, 150, 0, 0, 0), none, none, some (.iconst 0, 0, 0, 0, 0)]
def zC_177_1 : List (Option zE) := [some (.istore 4, 0, 0, 0, 0), none, some (.aload_n 0, 0, 0, 0, 0), some (.getfield 7, 11, 0, 0, 139), none, none, some (.sipush 556, 0, 0, 0, 0), none, none, some (.iload_n 3, 0, 0, 0, 0), some (.iadd, 0, 0, 0, 0), some (.iload 4, 0, 0, 0, 0), none, some (.ifCond .eq 7, 170, 0, 0, 0), none, none, some (.iconst 1, 0, 0, 0, 0), some (.goto 4, 171, 0, 0, 0), none, none, some (.iconst 0, 0, 0, 0, 0), some (.iastore, 0, 0, 0, 0), some (.iload 4, 0, 0, 0, 0), none, some (.ifCond .eq 97, 271, 0, 0, 0), none, none, some (.iconst 1, 0, 0, 0, 0), some (.istore_n 2, 0, 0, 0, 0), some (.aload_n 0, 0, 0, 0, 0), some (.dup, 0, 0, 0, 0), some (.getfield 220, 11, 32, 0, 177), none, none, some (.iconst 1, 0, 0, 0, 0), some (.iadd, 0, 0, 0, 0), some (.putfield 220, 11, 32, 0, 177), none, none, some (.aload_n 0, 0, 0, 0, 0), some (.getfield 7, 11, 0, 0, 139), none, none, some (.sipush 520, 0, 0, 0, 0), none, none, some (.iload_n 3, 0, 0, 0, 0), some (.iadd, 0, 0, 0, 0), some (.dup2, 0, 0, 0, 0), some (.iaload, 0, 0, 0, 0), some (.iconst 1, 0, 0, 0, 0), some (.iadd, 0, 0, 0, 0), some (.iastore, 0, 0, 0, 0), some (.aload_n 0, 0, 0, 0, 0), some (.getfield 7, 11, 0, 0, 139), none, none, some (.sipush 448, 0, 0, 0, 0), none, none, some (.iload_n 3, 0, 0, 0, 0), some (.iadd, 0, 0, 0, 0), some (.iaload, 0, 0, 0, 0), some (.iconst 1, 0, 0, 0, 0), some (.if_icmp .ne 26, 240, 0, 0, 0), none, none, some (.aload_n 0, 0, 0, 0, 0), some (.getfield 7, 11, 0, 0, 139), none, none, some (.sipush 532, 0, 0, 0, 0), none, none, some (.iload_n 3, 0, 0, 0, 0), some (.iadd, 0, 0, 0, 0), some (.dup2, 0, 0, 0, 0), some (.iaload, 0, 0, 0, 0), some (.aload_n 0, 0, 0, 0, 0), some (.getfield 7, 11, 0, 0, 139), none, none, some (.sipush 496, 0, 0, 0, 0), none, none, some (.iload_n 3, 0, 0, 0, 0), some (.iadd, 0, 0, 0, 0), some (.iaload, 0, 0, 0, 0), some (.iadd, 0, 0, 0, 0), some (.iastore, 0, 0, 0, 0), some (.aload_n 0, 0, 0, 0, 0), some (.getfield 7, 11, 0, 0, 139), none, none, some (.sipush 448, 0, 0, 0, 0), none, none, some (.iload_n 3, 0, 0, 0, 0), some (.iadd, 0, 0, 0, 0), some (.iaload, 0, 0, 0, 0), some (.iconst 2, 0, 0, 0, 0), some (.if_icmp .ne 61, 312, 0, 0, 0), none, none, some (.aload_n 0, 0, 0, 0, 0), some (.getfield 7, 11, 0, 0, 139), none, none, some (.sipush 544, 0, 0, 0, 0), none, none, some (.iload_n 3, 0, 0, 0, 0), some (.iadd, 0, 0, 0, 0), some (.dup2, 0, 0, 0, 0), some (.iaload, 0, 0, 0, 0), some (.iconst 2, 0, 0, 0, 0), some (.iadd, 0, 0, 0, 0), some (.iastore, 0, 0, 0, 0), some (.goto 44, 312, 0, 0, 0), none, none, some (.aload_n 0, 0, 0, 0, 0), some (.getfield 7, 11, 0, 0, 139), none, none, some (.sipush 448, 0, 0, 0, 0), none, none, some (.iload_n 3, 0, 0, 0, 0), some (.iadd, 0, 0, 0, 0), some (.iaload, 0, 0, 0, 0), some (.iconst 2, 0, 0, 0, 0), some (.if_icmp .ne 30, 312, 0, 0, 0), none, none, some (.aload_n 0, 0, 0, 0, 0), some (.getfield 7, 11, 0, 0, 139), none, none, some (.sipush 544, 0, 0, 0, 0), none, none, some (.iload_n 3, 0, 0, 0, 0), some (.iadd, 0, 0, 0, 0), some (.iaload, 0, 0, 0, 0), some (.ifCond .le 17, 312, 0, 0, 0), none, none, some (.aload_n 0, 0, 0, 0, 0), some (.getfield 7, 11, 0, 0, 139)]
def zC_177_2 : List (Option zE) := [none, none, some (.sipush 544, 0, 0, 0, 0), none, none, some (.iload_n 3, 0, 0, 0, 0), some (.iadd, 0, 0, 0, 0), some (.dup2, 0, 0, 0, 0), some (.iaload, 0, 0, 0, 0), some (.iconst 1, 0, 0, 0, 0), some (.isub, 0, 0, 0, 0), some (.iastore, 0, 0, 0, 0), some (.iinc 3 1, 0, 0, 0, 0), none, none, some (.goto (-224), 91, 0, 0, 0), none, none, some (.iconst 0, 0, 0, 0, 0), some (.istore_n 3, 0, 0, 0, 0), some (.iconst 0, 0, 0, 0, 0), some (.istore 4, 0, 0, 0, 0), none, some (.iload 4, 0, 0, 0, 0), none, some (.aload_n 0, 0, 0, 0, 0), some (.getfield 7, 11, 0, 0, 139), none, none, some (.sipush 633, 0, 0, 0, 0), none, none, some (.iaload, 0, 0, 0, 0), some (.if_icmp .ge 26, 359, 0, 0, 0), none, none, some (.aload_n 0, 0, 0, 0, 0), some (.getfield 7, 11, 0, 0, 139), none, none, some (.sipush 253, 0, 0, 0, 0), none, none, some (.iload 4, 0, 0, 0, 0), none, some (.iadd, 0, 0, 0, 0), some (.iaload, 0, 0, 0, 0), some (.iconst 1, 0, 0, 0, 0), some (.if_icmp .ne 5, 353, 0, 0, 0), none, none, some (.iconst 1, 0, 0, 0, 0), some (.istore_n 3, 0, 0, 0, 0), some (.iinc 4 1, 0, 0, 0, 0), none, none, some (.goto (-33), 323, 0, 0, 0), none, none, some (.iload_n 2, 0, 0, 0, 0), some (.ifCond .eq 19, 379, 0, 0, 0), none, none, some (.iload_n 3, 0, 0, 0, 0), some (.ifCond .ne 15, 379, 0, 0, 0), none, none, some (.aload_n 0, 0, 0, 0, 0), some (.getfield 7, 11, 0, 0, 139), none, none, some (.sipush 643, 0, 0, 0, 0), none, none, some (.dup2, 0, 0, 0, 0), some (.iaload, 0, 0, 0, 0), some (.iconst 1, 0, 0, 0, 0), some (.iadd, 0, 0, 0, 0), some (.iastore, 0, 0, 0, 0), some (.iload_n 3, 0, 0, 0, 0), some (.ifCond .eq 35, 415, 0, 0, 0), none, none, some (.aload_n 0, 0, 0, 0, 0), some (.aload_n 0, 0, 0, 0, 0), some (.getfield 7, 11, 0, 0, 139), none, none, some (.sipush 634, 0, 0, 0, 0), none, none, some (.iaload, 0, 0, 0, 0), some (.iload_n 1, 0, 0, 0, 0), some (.invokevirtual 134, 145, 0, 3, 135), none, none, some (.aload_n 0, 0, 0, 0, 0), some (.getfield 211, 11, 33, 0, 175), none, none, some (.if_icmp .gt 15, 415, 0, 0, 0), none, none, some (.aload_n 0, 0, 0, 0, 0), some (.getfield 7, 11, 0, 0, 139), none, none, some (.sipush 644, 0, 0, 0, 0), none, none, some (.dup2, 0, 0, 0, 0), some (.iaload, 0, 0, 0, 0), some (.iconst 1, 0, 0, 0, 0), some (.iadd, 0, 0, 0, 0), some (.iastore, 0, 0, 0, 0), some (.aload_n 0, 0, 0, 0, 0), some (.getfield 7, 11, 0, 0, 139), none, none, some (.sipush 634, 0, 0, 0, 0), none, none, some (.dup2, 0, 0, 0, 0), some (.iaload, 0, 0, 0, 0), some (.iconst 1, 0, 0, 0, 0), some (.iadd, 0, 0, 0, 0), some (.iastore, 0, 0, 0, 0), some (.aload_n 0, 0, 0, 0, 0), some (.getfield 7, 11, 0, 0, 139), none, none, some (.sipush 634, 0, 0, 0, 0), none, none, some (.iaload, 0, 0, 0, 0), some (.bipush 96, 0, 0, 0, 0), none, some (.irem, 0, 0, 0, 0), some (.ifCond .eq 4, 442, 0, 0, 0), none, none, some (.return_, 0, 0, 0, 0), some (.aload_n 0, 0, 0, 0, 0), some (.getfield 7, 11, 0, 0, 139), none, none, some (.sipush 634, 0, 0, 0, 0), none, none, some (.iaload, 0, 0, 0, 0)]
def zC_177_3 : List (Option zE) := [some (.bipush 96, 0, 0, 0, 0), none, some (.idiv, 0, 0, 0, 0), some (.istore 4, 0, 0, 0, 0), none, some (.iconst 0, 0, 0, 0, 0), some (.istore 5, 0, 0, 0, 0), none, some (.iload 5, 0, 0, 0, 0), none, some (.bipush 25, 0, 0, 0, 0), none, some (.if_icmp .ge 66, 528, 0, 0, 0), none, none, some (.aload_n 0, 0, 0, 0, 0), some (.getfield 7, 11, 0, 0, 139), none, none, some (.bipush 75, 0, 0, 0, 0), none, some (.iload 5, 0, 0, 0, 0), none, some (.iadd, 0, 0, 0, 0), some (.iaload, 0, 0, 0, 0), some (.aload_n 0, 0, 0, 0, 0), some (.getfield 7, 11, 0, 0, 139), none, none, some (.sipush 639, 0, 0, 0, 0), none, none, some (.iaload, 0, 0, 0, 0), some (.if_icmp .ge 28, 511, 0, 0, 0), none, none, some (.aload_n 0, 0, 0, 0, 0), some (.getfield 7, 11, 0, 0, 139), none, none, some (.iconst 0, 0, 0, 0, 0), some (.iload 5, 0, 0, 0, 0), none, some (.iadd, 0, 0, 0, 0), some (.iaload, 0, 0, 0, 0), some (.ifCond .le 16, 511, 0, 0, 0), none, none, some (.aload_n 0, 0, 0, 0, 0), some (.getfield 7, 11, 0, 0, 139), none, none, some (.iconst 0, 0, 0, 0, 0), some (.iload 5, 0, 0, 0, 0), none, some (.iadd, 0, 0, 0, 0), some (.dup2, 0, 0, 0, 0), some (.iaload, 0, 0, 0, 0), some (.iconst 1, 0, 0, 0, 0), some (.isub, 0, 0, 0, 0), some (.iastore, 0, 0, 0, 0), some (.aload_n 0, 0, 0, 0, 0), some (.getfield 7, 11, 0, 0, 139), none, none, some (.bipush 75, 0, 0, 0, 0), none, some (.iload 5, 0, 0, 0, 0), none, some (.iadd, 0, 0, 0, 0), some (.iconst 0, 0, 0, 0, 0), some (.iastore, 0, 0, 0, 0), some (.iinc 5 1, 0, 0, 0, 0), none, none, some (.goto (-67), 458, 0, 0, 0), none, none, some (.iconst 0, 0, 0, 0, 0), some (.istore 5, 0, 0, 0, 0), none, some (.iload 5, 0, 0, 0, 0), none, some (.aload_n 0, 0, 0, 0, 0), some (.getfield 7, 11, 0, 0, 139), none, none, some (.sipush 641, 0, 0, 0, 0), none, none, some (.iaload, 0, 0, 0, 0), some (.if_icmp .ge 55, 596, 0, 0, 0), none, none, some (.aload_n 0, 0, 0, 0, 0), some (.getfield 7, 11, 0, 0, 139), none, none, some (.sipush 484, 0, 0, 0, 0), none, none, some (.iload 5, 0, 0, 0, 0), none, some (.iadd, 0, 0, 0, 0), some (.iaload, 0, 0, 0, 0), some (.ifCond .le 35, 590, 0, 0, 0), none, none, some (.iload 4, 0, 0, 0, 0), none, some (.aload_n 0, 0, 0, 0, 0), some (.getfield 7, 11, 0, 0, 139), none, none, some (.sipush 484, 0, 0, 0, 0), none, none, some (.iload 5, 0, 0, 0, 0), none, some (.iadd, 0, 0, 0, 0), some (.iaload, 0, 0, 0, 0), some (.irem, 0, 0, 0, 0), some (.ifCond .ne 18, 590, 0, 0, 0), none, none, some (.aload_n 0, 0, 0, 0, 0), some (.getfield 7, 11, 0, 0, 139), none, none, some (.sipush 508, 0, 0, 0, 0), none, none, some (.iload 5, 0, 0, 0, 0), none, some (.iadd, 0, 0, 0, 0), some (.dup2, 0, 0, 0, 0), some (.iaload, 0, 0, 0, 0), some (.iconst 1, 0, 0, 0, 0), some (.iadd, 0, 0, 0, 0), some (.iastore, 0, 0, 0, 0), some (.iinc 5 1, 0, 0, 0, 0), none, none, some (.goto (-62), 531, 0, 0, 0), none, none, some (.return_, 0, 0, 0, 0)]
def zC_177 : List (Option zE) := zC_177_0 ++ (zC_177_1 ++ (zC_177_2 ++ (zC_177_3)))
def zC_178 : List (Option zE) := [some (.iload_n 1, 0, 0, 0, 0), some (.iconst 1, 0, 0, 0, 0), some (.if_icmp .lt 10, 12, 0, 0, 0), none, none, some (.iload_n 1, 0, 0, 0, 0), some (.sipush 200, 0, 0, 0, 0), none, none, some (.if_icmp .le 10, 19, 0, 0, 0), none, none, some (.aload_n 0, 0, 0, 0, 0), some (.bipush (-6), 0, 0, 0, 0), none, some (.invokevirtual 103, 123, 0, 2, 129), none, none, some (.ireturn, 0, 0, 0, 0), some (.aload_n 0, 0, 0, 0, 0), some (.getfield 7, 11, 0, 0, 139), none, none, some (.sipush 634, 0, 0, 0, 0), none, none, some (.iaload, 0, 0, 0, 0), some (.iload_n 1, 0, 0, 0, 0), some (.iadd, 0, 0, 0, 0), some (.sipush 20000, 0, 0, 0, 0), none, none, some (.if_icmp .le 10, 42, 0, 0, 0), none, none, some (.aload_n 0, 0, 0, 0, 0), some (.bipush (-7), 0, 0, 0, 0), none, some (.invokevirtual 103, 123, 0, 2, 129), none, none, some (.ireturn, 0, 0, 0, 0), some (.iconst 0, 0, 0, 0, 0), some (.istore_n 2, 0, 0, 0, 0), some (.iload_n 2, 0, 0, 0, 0), some (.iload_n 1, 0, 0, 0, 0), some (.if_icmp .ge 19, 65, 0, 0, 0), none, none, some (.aload_n 0, 0, 0, 0, 0), some (.iconst 0, 0, 0, 0, 0), some (.invokevirtual 223, 175, 0, 2, 153), none, none, some (.aload_n 0, 0, 0, 0, 0), some (.iconst 0, 0, 0, 0, 0), some (.invokevirtual 227, 177, 0, 2, 154), none, none, some (.iinc 2 1, 0, 0, 0, 0), none, none, some (.goto (-18), 44, 0, 0, 0), none, none, some (.aload_n 0, 0, 0, 0, 0), some (.getfield 7, 11, 0, 0, 139), none, none, some (.sipush 634, 0, 0, 0, 0), none, none, some (.iaload, 0, 0, 0, 0), some (.ireturn, 0, 0, 0, 0)]
def zC_179 : List (Option zE) := [some (.iconst 0, 0, 0, 0, 0), some (.istore_n 3, 0, 0, 0, 0), some (.iload_n 3, 0, 0, 0, 0), some (.sipush 646, 0, 0, 0, 0), none, none, some (.if_icmp .ge 15, 21, 0, 0, 0), none, none, some (.aload_n 2, 0, 0, 0, 0), some (.iload_n 3, 0, 0, 0, 0), some (.aload_n 1, 0, 0, 0, 0), some (.iload_n 3, 0, 0, 0, 0), some (.iaload, 0, 0, 0, 0), some (.iastore, 0, 0, 0, 0), some (.iinc 3 1, 0, 0, 0, 0), none, none, some (.goto (-16), 2, 0, 0, 0), none, none, some (.return_, 0, 0, 0, 0)]
def zC_180_0 : List (Option zE) := [some (.aload_n 0, 0, 0, 0, 0), some (.iload_n 1, 0, 0, 0, 0), some (.invokevirtual 198, 167, 0, 2, 148), none, none, some (.ifCond .eq 10, 15, 0, 0, 0), none, none, some (.iload_n 2, 0, 0, 0, 0), some (.invokestatic 99, 124, 1, 1, 128), none, none, some (.ifCond .ne 5, 17, 0, 0, 0), none, none, some (.iconst (-1), 0, 0, 0, 0), some (.ireturn, 0, 0, 0, 0), some (.iload_n 3, 0, 0, 0, 0), some (.iconst 1, 0, 0, 0, 0), some (.if_icmp .lt 9, 28, 0, 0, 0), none, none, some (.iload_n 3, 0, 0, 0, 0), some (.bipush 96, 0, 0, 0, 0), none, some (.if_icmp .le 10, 35, 0, 0, 0), none, none, some (.aload_n 0, 0, 0, 0, 0), some (.bipush (-6), 0, 0, 0, 0), none, some (.invokevirtual 103, 123, 0, 2, 129), none, none, some (.ireturn, 0, 0, 0, 0), some (.aload_n 0, 0, 0, 0, 0), some (.getfield 7, 11, 0, 0, 139), none, none, some (.sipush 568, 0, 0, 0, 0), none, none, some (.iload_n 1, 0, 0, 0, 0), some (.iadd, 0, 0, 0, 0), some (.iaload, 0, 0, 0, 0), some (.iload_n 2, 0, 0, 0, 0), some (.if_icmp .ne 5, 51, 0, 0, 0), none, none, some (.iconst 0, 0, 0, 0, 0), some (.ireturn, 0, 0, 0, 0), some (.aload_n 0, 0, 0, 0, 0), some (.aload_n 0, 0, 0, 0, 0), some (.getfield 7, 11, 0, 0, 139), none, none, some (.aload_n 0, 0, 0, 0, 0), some (.getfield 13, 11, 1, 0, 140), none, none, some (.invokevirtual 230, 179, 0, 3, 155), none, none, some (.iconst 1, 0, 0, 0, 0), some (.aload_n 0, 0, 0, 0, 0), some (.getfield 7, 11, 0, 0, 139), none, none, some (.sipush 568, 0, 0, 0, 0), none, none, some (.iload_n 1, 0, 0, 0, 0), some (.iadd, 0, 0, 0, 0), some (.iaload, 0, 0, 0, 0), some (.ishl, 0, 0, 0, 0), some (.istore 4, 0, 0, 0, 0), none, some (.iconst (-1), 0, 0, 0, 0), some (.istore 5, 0, 0, 0, 0), none, some (.iconst 0, 0, 0, 0, 0), some (.istore 6, 0, 0, 0, 0), none, some (.iload 6, 0, 0, 0, 0), none, some (.iload_n 3, 0, 0, 0, 0), some (.if_icmp .ge 122, 208, 0, 0, 0), none, none, some (.iload 5, 0, 0, 0, 0), none, some (.iconst (-1), 0, 0, 0, 0), some (.if_icmp .ne 116, 208, 0, 0, 0), none, none, some (.aload_n 0, 0, 0, 0, 0), some (.iconst 1, 0, 0, 0, 0), some (.invokevirtual 223, 175, 0, 2, 153), none, none, some (.iload 4, 0, 0, 0, 0), none, some (.istore 7, 0, 0, 0, 0), none, some (.iconst 0, 0, 0, 0, 0), some (.istore 8, 0, 0, 0, 0), none, some (.iload 8, 0, 0, 0, 0), none, some (.bipush 25, 0, 0, 0, 0), none, some (.if_icmp .ge 66, 177, 0, 0, 0), none, none, some (.iconst 0, 0, 0, 0, 0), some (.istore 9, 0, 0, 0, 0), none, some (.iload 9, 0, 0, 0, 0), none, some (.iconst 4, 0, 0, 0, 0), some (.if_icmp .ge 51, 171, 0, 0, 0), none, none, some (.iload 4, 0, 0, 0, 0), none, some (.iload 8, 0, 0, 0, 0), none, some (.ishr, 0, 0, 0, 0), some (.iconst 1, 0, 0, 0, 0), some (.iand, 0, 0, 0, 0), some (.iconst 1, 0, 0, 0, 0), some (.if_icmp .ne 34, 165, 0, 0, 0), none, none, some (.aload_n 0, 0, 0, 0, 0), some (.iload_n 1, 0, 0, 0, 0), some (.iload 8, 0, 0, 0, 0), none, some (.iload 8, 0, 0, 0, 0), none, some (.iload 9, 0, 0, 0, 0), none, some (.invokestatic 201, 171, 1, 2, 149), none, none, some (.invokevirtual 204, 170, 0, 4, 150), none, none, some (.ifCond .eq 17, 165, 0, 0, 0), none]
def zC_180_1 : List (Option zE) := [none, some (.iload 7, 0, 0, 0, 0), none, some (.iconst 1, 0, 0, 0, 0), some (.iload 8, 0, 0, 0, 0), none, some (.iload 9, 0, 0, 0, 0), none, some (.invokestatic 201, 171, 1, 2, 149), none, none, some (.ishl, 0, 0, 0, 0), some (.ior, 0, 0, 0, 0), some (.istore 7, 0, 0, 0, 0), none, some (.iinc 9 1, 0, 0, 0, 0), none, none, some (.goto (-51), 117, 0, 0, 0), none, none, some (.iinc 8 1, 0, 0, 0, 0), none, none, some (.goto (-67), 107, 0, 0, 0), none, none, some (.iload 7, 0, 0, 0, 0), none, some (.istore 4, 0, 0, 0, 0), none, some (.iload 4, 0, 0, 0, 0), none, some (.iload_n 2, 0, 0, 0, 0), some (.ishr, 0, 0, 0, 0), some (.iconst 1, 0, 0, 0, 0), some (.iand, 0, 0, 0, 0), some (.iconst 1, 0, 0, 0, 0), some (.if_icmp .ne 9, 197, 0, 0, 0), none, none, some (.iload 6, 0, 0, 0, 0), none, some (.iconst 1, 0, 0, 0, 0), some (.iadd, 0, 0, 0, 0), some (.istore 5, 0, 0, 0, 0), none, some (.aload_n 0, 0, 0, 0, 0), some (.iconst 1, 0, 0, 0, 0), some (.invokevirtual 227, 177, 0, 2, 154), none, none, some (.iinc 6 1, 0, 0, 0, 0), none, none, some (.goto (-122), 83, 0, 0, 0), none, none, some (.aload_n 0, 0, 0, 0, 0), some (.aload_n 0, 0, 0, 0, 0), some (.getfield 13, 11, 1, 0, 140), none, none, some (.aload_n 0, 0, 0, 0, 0), some (.getfield 7, 11, 0, 0, 139), none, none, some (.invokevirtual 230, 179, 0, 3, 155), none, none, some (.iload 5, 0, 0, 0, 0), none, some (.ireturn, 0, 0, 0, 0)]
def zC_180 : List (Option zE) := zC_180_0 ++ (zC_180_1)
def zC_181 : List (Option zE) := [some (.iload_n 1, 0, 0, 0, 0), some (.invokestatic 99, 124, 1, 1, 128), none, none, some (.ifCond .eq 14, 18, 0, 0, 0), none, none, some (.iload_n 2, 0, 0, 0, 0), some (.ifCond .lt 10, 18, 0, 0, 0), none, none, some (.iload_n 2, 0, 0, 0, 0), some (.sipush 200, 0, 0, 0, 0), none, none, some (.if_icmp .le 7, 22, 0, 0, 0), none, none, some (.sipush 1000, 0, 0, 0, 0), none, none, some (.ireturn, 0, 0, 0, 0), some (.aload_n 0, 0, 0, 0, 0), some (.aload_n 0, 0, 0, 0, 0), some (.getfield 7, 11, 0, 0, 139), none, none, some (.aload_n 0, 0, 0, 0, 0), some (.getfield 13, 11, 1, 0, 140), none, none, some (.invokevirtual 230, 179, 0, 3, 155), none, none, some (.iconst 0, 0, 0, 0, 0), some (.istore_n 3, 0, 0, 0, 0), some (.iload_n 3, 0, 0, 0, 0), some (.iload_n 2, 0, 0, 0, 0), some (.if_icmp .ge 19, 57, 0, 0, 0), none, none, some (.aload_n 0, 0, 0, 0, 0), some (.iconst 1, 0, 0, 0, 0), some (.invokevirtual 223, 175, 0, 2, 153), none, none, some (.aload_n 0, 0, 0, 0, 0), some (.iconst 1, 0, 0, 0, 0), some (.invokevirtual 227, 177, 0, 2, 154), none, none, some (.iinc 3 1, 0, 0, 0, 0), none, none, some (.goto (-18), 36, 0, 0, 0), none, none, some (.aload_n 0, 0, 0, 0, 0), some (.getfield 7, 11, 0, 0, 139), none, none, some (.bipush 25, 0, 0, 0, 0), none, some (.iload_n 1, 0, 0, 0, 0), some (.iadd, 0, 0, 0, 0), some (.iaload, 0, 0, 0, 0), some (.istore_n 3, 0, 0, 0, 0), some (.aload_n 0, 0, 0, 0, 0), some (.aload_n 0, 0, 0, 0, 0), some (.getfield 13, 11, 1, 0, 140), none, none, some (.aload_n 0, 0, 0, 0, 0), some (.getfield 7, 11, 0, 0, 139), none, none, some (.invokevirtual 230, 179, 0, 3, 155), none, none, some (.iload_n 3, 0, 0, 0, 0), some (.ireturn, 0, 0, 0, 0)]
def zC_182_0 : List (Option zE) := [some (.iload_n 1, 0, 0, 0, 0), some (.iconst 1, 0, 0, 0, 0), some (.if_icmp .lt 18, 20, 0, 0, 0), none, none, some (.iload_n 1, 0, 0, 0, 0), some (.bipush 48, 0, 0, 0, 0), none, some (.if_icmp .gt 12, 20, 0, 0, 0), none, none, some (.iload_n 2, 0, 0, 0, 0), some (.ifCond .lt 8, 20, 0, 0, 0), none, none, some (.iload_n 2, 0, 0, 0, 0), some (.iconst 1, 0, 0, 0, 0), some (.if_icmp .le 10, 27, 0, 0, 0), none, none, some (.aload_n 0, 0, 0, 0, 0), some (.bipush (-6), 0, 0, 0, 0), none, some (.invokevirtual 103, 123, 0, 2, 129), none, none, some (.ireturn, 0, 0, 0, 0), some (.iconst (-1), 0, 0, 0, 0), some (.istore_n 3, 0, 0, 0, 0), some (.iconst 0, 0, 0, 0, 0), some (.istore 4, 0, 0, 0, 0), none, some (.aload_n 0, 0, 0, 0, 0), some (.aload_n 0, 0, 0, 0, 0), some (.getfield 7, 11, 0, 0, 139), none, none, some (.aload_n 0, 0, 0, 0, 0), some (.getfield 13, 11, 1, 0, 140), none, none, some (.invokevirtual 230, 179, 0, 3, 155), none, none, some (.iconst 0, 0, 0, 0, 0), some (.istore 5, 0, 0, 0, 0), none, some (.iload 5, 0, 0, 0, 0), none, some (.iconst 1, 0, 0, 0, 0), some (.aload_n 0, 0, 0, 0, 0), some (.getfield 13, 11, 1, 0, 140), none, none, some (.sipush 640, 0, 0, 0, 0), none, none, some (.iaload, 0, 0, 0, 0), some (.ishl, 0, 0, 0, 0), some (.if_icmp .ge 129, 188, 0, 0, 0), none, none, some (.aload_n 0, 0, 0, 0, 0), some (.aload_n 0, 0, 0, 0, 0), some (.getfield 13, 11, 1, 0, 140), none, none, some (.aload_n 0, 0, 0, 0, 0), some (.getfield 7, 11, 0, 0, 139), none, none, some (.invokevirtual 230, 179, 0, 3, 155), none, none, some (.iconst 0, 0, 0, 0, 0), some (.istore 6, 0, 0, 0, 0), none, some (.iload 6, 0, 0, 0, 0), none, some (.aload_n 0, 0, 0, 0, 0), some (.getfield 7, 11, 0, 0, 139), none, none, some (.sipush 640, 0, 0, 0, 0), none, none, some (.iaload, 0, 0, 0, 0), some (.if_icmp .ge 27, 114, 0, 0, 0), none, none, some (.aload_n 0, 0, 0, 0, 0), some (.getfield 7, 11, 0, 0, 139), none, none, some (.sipush 628, 0, 0, 0, 0), none, none, some (.iload 6, 0, 0, 0, 0), none, some (.iadd, 0, 0, 0, 0), some (.iload 5, 0, 0, 0, 0), none, some (.iload 6, 0, 0, 0, 0), none, some (.ishr, 0, 0, 0, 0), some (.iconst 1, 0, 0, 0, 0), some (.iand, 0, 0, 0, 0), some (.iastore, 0, 0, 0, 0), some (.iinc 6 1, 0, 0, 0, 0), none, none, some (.goto (-34), 77, 0, 0, 0), none, none, some (.aload_n 0, 0, 0, 0, 0), some (.iconst 0, 0, 0, 0, 0), some (.putfield 214, 11, 31, 0, 176), none, none, some (.aload_n 0, 0, 0, 0, 0), some (.iconst 0, 0, 0, 0, 0), some (.putfield 220, 11, 32, 0, 177), none, none, some (.iconst 0, 0, 0, 0, 0), some (.istore 6, 0, 0, 0, 0), none, some (.iload 6, 0, 0, 0, 0), none, some (.iload_n 1, 0, 0, 0, 0), some (.if_icmp .ge 19, 149, 0, 0, 0), none, none, some (.aload_n 0, 0, 0, 0, 0), some (.iconst 1, 0, 0, 0, 0), some (.invokevirtual 223, 175, 0, 2, 153), none, none, some (.aload_n 0, 0, 0, 0, 0), some (.iconst 1, 0, 0, 0, 0), some (.invokevirtual 227, 177, 0, 2, 154), none, none, some (.iinc 6 1, 0, 0, 0, 0), none, none, some (.goto (-19), 127, 0, 0, 0), none, none, some (.bipush 10, 0, 0, 0, 0)]
def zC_182_1 : List (Option zE) := [none, some (.aload_n 0, 0, 0, 0, 0), some (.getfield 220, 11, 32, 0, 177), none, none, some (.imul, 0, 0, 0, 0), some (.aload_n 0, 0, 0, 0, 0), some (.getfield 214, 11, 31, 0, 176), none, none, some (.iadd, 0, 0, 0, 0), some (.istore 6, 0, 0, 0, 0), none, some (.iload_n 3, 0, 0, 0, 0), some (.iconst (-1), 0, 0, 0, 0), some (.if_icmp .eq 10, 175, 0, 0, 0), none, none, some (.iload 6, 0, 0, 0, 0), none, some (.iload 4, 0, 0, 0, 0), none, some (.if_icmp .ge 10, 182, 0, 0, 0), none, none, some (.iload 5, 0, 0, 0, 0), none, some (.istore_n 3, 0, 0, 0, 0), some (.iload 6, 0, 0, 0, 0), none, some (.istore 4, 0, 0, 0, 0), none, some (.iinc 5 1, 0, 0, 0, 0), none, none, some (.goto (-138), 47, 0, 0, 0), none, none, some (.aload_n 0, 0, 0, 0, 0), some (.aload_n 0, 0, 0, 0, 0), some (.getfield 13, 11, 1, 0, 140), none, none, some (.aload_n 0, 0, 0, 0, 0), some (.getfield 7, 11, 0, 0, 139), none, none, some (.invokevirtual 230, 179, 0, 3, 155), none, none, some (.iload_n 2, 0, 0, 0, 0), some (.ifCond .ne 7, 208, 0, 0, 0), none, none, some (.iload_n 3, 0, 0, 0, 0), some (.goto 5, 210, 0, 0, 0), none, none, some (.iload 4, 0, 0, 0, 0), none, some (.ireturn, 0, 0, 0, 0)]
def zC_182 : List (Option zE) := zC_182_0 ++ (zC_182_1)
def zC_183 : List (Option zE) := [some (.iload_n 1, 0, 0, 0, 0), some (.invokestatic 99, 124, 1, 1, 128), none, none, some (.ifCond .ne 9, 13, 0, 0, 0), none, none, some (.aload_n 0, 0, 0, 0, 0), some (.iconst (-1), 0, 0, 0, 0), some (.invokevirtual 103, 123, 0, 2, 129), none, none, some (.ireturn, 0, 0, 0, 0), some (.iload_n 2, 0, 0, 0, 0), some (.iconst 1, 0, 0, 0, 0), some (.if_icmp .lt 24, 39, 0, 0, 0), none, none, some (.iload_n 2, 0, 0, 0, 0), some (.bipush 20, 0, 0, 0, 0), none, some (.if_icmp .gt 18, 39, 0, 0, 0), none, none, some (.aload_n 0, 0, 0, 0, 0), some (.getfield 7, 11, 0, 0, 139), none, none, some (.iconst 0, 0, 0, 0, 0), some (.iload_n 1, 0, 0, 0, 0), some (.iadd, 0, 0, 0, 0), some (.iaload, 0, 0, 0, 0), some (.iload_n 2, 0, 0, 0, 0), some (.iadd, 0, 0, 0, 0), some (.bipush 60, 0, 0, 0, 0), none, some (.if_icmp .le 10, 46, 0, 0, 0), none, none, some (.aload_n 0, 0, 0, 0, 0), some (.bipush (-6), 0, 0, 0, 0), none, some (.invokevirtual 103, 123, 0, 2, 129), none, none, some (.ireturn, 0, 0, 0, 0), some (.aload_n 0, 0, 0, 0, 0), some (.getfield 7, 11, 0, 0, 139), none, none, some (.iconst 0, 0, 0, 0, 0), some (.iload_n 1, 0, 0, 0, 0), some (.iadd, 0, 0, 0, 0), some (.dup2, 0, 0, 0, 0), some (.iaload, 0, 0, 0, 0), some (.iload_n 2, 0, 0, 0, 0), some (.iadd, 0, 0, 0, 0), some (.iastore, 0, 0, 0, 0), some (.aload_n 0, 0, 0, 0, 0), some (.getfield 7, 11, 0, 0, 139), none, none, some (.iconst 0, 0, 0, 0, 0), some (.iload_n 1, 0, 0, 0, 0), some (.iadd, 0, 0, 0, 0), some (.iaload, 0, 0, 0, 0), some (.ireturn, 0, 0, 0, 0)]
def zC_184 : List (Option zE) := [some (.aload_n 0, 0, 0, 0, 0), some (.aload_n 0, 0, 0, 0, 0), some (.getfield 7, 11, 0, 0, 139), none, none, some (.aload_n 0, 0, 0, 0, 0), some (.getfield 16, 11, 2, 0, 141), none, none, some (.invokevirtual 230, 179, 0, 3, 155), none, none, some (.iconst 0, 0, 0, 0, 0), some (.istore_n 1, 0, 0, 0, 0), some (.iload_n 1, 0, 0, 0, 0), some (.iconst 5, 0, 0, 0, 0), some (.if_icmp .ge 33, 49, 0, 0, 0), none, none, some (.aload_n 0, 0, 0, 0, 0), some (.getfield 81, 11, 34, 0, 162), none, none, some (.iload_n 1, 0, 0, 0, 0), some (.aload_n 0, 0, 0, 0, 0), some (.getfield 38, 11, 10, 0, 148), none, none, some (.iload_n 1, 0, 0, 0, 0), some (.iaload, 0, 0, 0, 0), some (.iastore, 0, 0, 0, 0), some (.aload_n 0, 0, 0, 0, 0), some (.getfield 84, 11, 35, 0, 163), none, none, some (.iload_n 1, 0, 0, 0, 0), some (.aload_n 0, 0, 0, 0, 0), some (.getfield 41, 11, 11, 0, 149), none, none, some (.iload_n 1, 0, 0, 0, 0), some (.iaload, 0, 0, 0, 0), some (.iastore, 0, 0, 0, 0), some (.iinc 1 1, 0, 0, 0, 0), none, none, some (.goto (-32), 14, 0, 0, 0), none, none, some (.iconst 0, 0, 0, 0, 0), some (.istore_n 1, 0, 0, 0, 0), some (.iload_n 1, 0, 0, 0, 0), some (.sipush 600, 0, 0, 0, 0), none, none, some (.if_icmp .ge 21, 76, 0, 0, 0), none, none, some (.aload_n 0, 0, 0, 0, 0), some (.getfield 87, 11, 36, 0, 164), none, none, some (.iload_n 1, 0, 0, 0, 0), some (.aload_n 0, 0, 0, 0, 0), some (.getfield 44, 11, 12, 0, 150), none, none, some (.iload_n 1, 0, 0, 0, 0), some (.iaload, 0, 0, 0, 0), some (.iastore, 0, 0, 0, 0), some (.iinc 1 1, 0, 0, 0, 0), none, none, some (.goto (-22), 51, 0, 0, 0), none, none, some (.iconst 0, 0, 0, 0, 0), some (.istore_n 1, 0, 0, 0, 0), some (.iload_n 1, 0, 0, 0, 0), some (.sipush 250, 0, 0, 0, 0), none, none, some (.if_icmp .ge 45, 127, 0, 0, 0), none, none, some (.aload_n 0, 0, 0, 0, 0), some (.getfield 90, 11, 37, 0, 165), none, none, some (.iload_n 1, 0, 0, 0, 0), some (.aload_n 0, 0, 0, 0, 0), some (.getfield 47, 11, 13, 0, 151), none, none, some (.iload_n 1, 0, 0, 0, 0), some (.iaload, 0, 0, 0, 0), some (.iastore, 0, 0, 0, 0), some (.aload_n 0, 0, 0, 0, 0), some (.getfield 93, 11, 38, 0, 166), none, none, some (.iload_n 1, 0, 0, 0, 0), some (.aload_n 0, 0, 0, 0, 0), some (.getfield 50, 11, 14, 0, 152), none, none, some (.iload_n 1, 0, 0, 0, 0), some (.iaload, 0, 0, 0, 0), some (.iastore, 0, 0, 0, 0), some (.aload_n 0, 0, 0, 0, 0), some (.getfield 96, 11, 39, 0, 167), none, none, some (.iload_n 1, 0, 0, 0, 0), some (.aload_n 0, 0, 0, 0, 0), some (.getfield 53, 11, 15, 0, 153), none, none, some (.iload_n 1, 0, 0, 0, 0), some (.iaload, 0, 0, 0, 0), some (.iastore, 0, 0, 0, 0), some (.iinc 1 1, 0, 0, 0, 0), none, none, some (.goto (-46), 78, 0, 0, 0), none, none, some (.aload_n 0, 0, 0, 0, 0), some (.iconst 1, 0, 0, 0, 0), some (.putfield 234, 11, 3, 0, 178), none, none, some (.aload_n 0, 0, 0, 0, 0), some (.getfield 7, 11, 0, 0, 139), none, none, some (.sipush 634, 0, 0, 0, 0), none, none, some (.iaload, 0, 0, 0, 0), some (.ireturn, 0, 0, 0, 0)]
def zC_185_0 : List (Option zE) := [some (.aload_n 0, 0, 0, 0, 0), some (.getfield 234, 11, 3, 0, 178), none, none, some (.ifCond .ne 10, 14, 0, 0, 0), none, none, some (.aload_n 0, 0, 0, 0, 0), some (.bipush (-6), 0, 0, 0, 0), none, some (.invokevirtual 103, 123, 0, 2, 129), none, none, some (.ireturn, 0, 0, 0, 0), some (.aload_n 0, 0, 0, 0, 0), some (.aload_n 0, 0, 0, 0, 0), some (.getfield 16, 11, 2, 0, 141), none, none, some (.aload_n 0, 0, 0, 0, 0), some (.getfield 7, 11, 0, 0, 139), none, none, some (.invokevirtual 230, 179, 0, 3, 155), none, none, some (.iconst 0, 0, 0, 0, 0), some (.istore_n 1, 0, 0, 0, 0), some (.iload_n 1, 0, 0, 0, 0), some (.iconst 5, 0, 0, 0, 0), some (.if_icmp .ge 33, 63, 0, 0, 0), none, none, some (.aload_n 0, 0, 0, 0, 0), some (.getfield 38, 11, 10, 0, 148), none, none, some (.iload_n 1, 0, 0, 0, 0), some (.aload_n 0, 0, 0, 0, 0), some (.getfield 81, 11, 34, 0, 162), none, none, some (.iload_n 1, 0, 0, 0, 0), some (.iaload, 0, 0, 0, 0), some (.iastore, 0, 0, 0, 0), some (.aload_n 0, 0, 0, 0, 0), some (.getfield 41, 11, 11, 0, 149), none, none, some (.iload_n 1, 0, 0, 0, 0), some (.aload_n 0, 0, 0, 0, 0), some (.getfield 84, 11, 35, 0, 163), none, none, some (.iload_n 1, 0, 0, 0, 0), some (.iaload, 0, 0, 0, 0), some (.iastore, 0, 0, 0, 0), some (.iinc 1 1, 0, 0, 0, 0), none, none, some (.goto (-32), 28, 0, 0, 0), none, none, some (.iconst 0, 0, 0, 0, 0), some (.istore_n 1, 0, 0, 0, 0), some (.iload_n 1, 0, 0, 0, 0), some (.sipush 600, 0, 0, 0, 0), none, none, some (.if_icmp .ge 21, 90, 0, 0, 0), none, none, some (.aload_n 0, 0, 0, 0, 0), some (.getfield 44, 11, 12, 0, 150), none, none, some (.iload_n 1, 0, 0, 0, 0), some (.aload_n 0, 0, 0, 0, 0), some (.getfield 87, 11, 36, 0, 164), none, none, some (.iload_n 1, 0, 0, 0, 0), some (.iaload, 0, 0, 0, 0), some (.iastore, 0, 0, 0, 0), some (.iinc 1 1, 0, 0, 0, 0), none, none, some (.goto (-22), 65, 0, 0, 0), none, none, some (.iconst 0, 0, 0, 0, 0), some (.istore_n 1, 0, 0, 0, 0), some (.iload_n 1, 0, 0, 0, 0), some (.sipush 250, 0, 0, 0, 0), none, none, some (.if_icmp .ge 45, 141, 0, 0, 0), none, none, some (.aload_n 0, 0, 0, 0, 0), some (.getfield 47, 11, 13, 0, 151), none, none, some (.iload_n 1, 0, 0, 0, 0), some (.aload_n 0, 0, 0, 0, 0), some (.getfield 90, 11, 37, 0, 165), none, none, some (.iload_n 1, 0, 0, 0, 0), some (.iaload, 0, 0, 0, 0), some (.iastore, 0, 0, 0, 0), some (.aload_n 0, 0, 0, 0, 0), some (.getfield 50, 11, 14, 0, 152), none, none, some (.iload_n 1, 0, 0, 0, 0), some (.aload_n 0, 0, 0, 0, 0), some (.getfield 93, 11, 38, 0, 166), none, none, some (.iload_n 1, 0, 0, 0, 0), some (.iaload, 0, 0, 0, 0), some (.iastore, 0, 0, 0, 0), some (.aload_n 0, 0, 0, 0, 0), some (.getfield 53, 11, 15, 0, 153), none, none, some (.iload_n 1, 0, 0, 0, 0), some (.aload_n 0, 0, 0, 0, 0), some (.getfield 96, 11, 39, 0, 167), none, none, some (.iload_n 1, 0, 0, 0, 0), some (.iaload, 0, 0, 0, 0), some (.iastore, 0, 0, 0, 0), some (.iinc 1 1, 0, 0, 0, 0), none, none, some (.goto (-46), 92, 0, 0, 0), none, none, some (.iconst 0, 0, 0, 0, 0), some (.istore_n 1, 0, 0, 0, 0), some (.iload_n 1, 0, 0, 0, 0), some (.bipush 8, 0, 0, 0, 0), none, some (.if_icmp .ge 39, 185, 0, 0, 0), none, none, some (.aload_n 0, 0, 0, 0, 0)]
def zC_185_1 : List (Option zE) := [some (.getfield 19, 11, 4, 0, 142), none, none, some (.iload_n 1, 0, 0, 0, 0), some (.iaload, 0, 0, 0, 0), some (.iconst 2, 0, 0, 0, 0), some (.if_icmp .ne 23, 179, 0, 0, 0), none, none, some (.aload_n 0, 0, 0, 0, 0), some (.aload_n 0, 0, 0, 0, 0), some (.getfield 28, 11, 7, 0, 145), none, none, some (.iload_n 1, 0, 0, 0, 0), some (.iaload, 0, 0, 0, 0), some (.invokevirtual 118, 139, 0, 2, 133), none, none, some (.ifCond .ne 10, 179, 0, 0, 0), none, none, some (.aload_n 0, 0, 0, 0, 0), some (.getfield 19, 11, 4, 0, 142), none, none, some (.iload_n 1, 0, 0, 0, 0), some (.iconst 0, 0, 0, 0, 0), some (.iastore, 0, 0, 0, 0), some (.iinc 1 1, 0, 0, 0, 0), none, none, some (.goto (-39), 143, 0, 0, 0), none, none, some (.aload_n 0, 0, 0, 0, 0), some (.getfield 7, 11, 0, 0, 139), none, none, some (.sipush 634, 0, 0, 0, 0), none, none, some (.iaload, 0, 0, 0, 0), some (.ireturn, 0, 0, 0, 0)]
def zC_185 : List (Option zE) := zC_185_0 ++ (zC_185_1)
def zC_186 : List (Option zE) := [some (.iload_n 1, 0, 0, 0, 0), some (.invokestatic 99, 124, 1, 1, 128), none, none, some (.ifCond .ne 6, 10, 0, 0, 0), none, none, some (.ldc 238, 0, 0, 1000000, 2), none, some (.ireturn, 0, 0, 0, 0), some (.iload_n 2, 0, 0, 0, 0), some (.tableswitch 110 0 4 #[33, 42, 52, 62, 72], 0, 0, 0, 0), none, none, none, none, none, none, none, none, none, none, none, none, none, none, none, none, none, none, none, none, none, none, none, none, none, none, none, none, none, none, none, none, some (.aload_n 0, 0, 0, 0, 0), some (.getfield 7, 11, 0, 0, 139), none, none, some (.iconst 0, 0, 0, 0, 0), some (.iload_n 1, 0, 0, 0, 0), some (.iadd, 0, 0, 0, 0), some (.iaload, 0, 0, 0, 0), some (.ireturn, 0, 0, 0, 0), some (.aload_n 0, 0, 0, 0, 0), some (.getfield 7, 11, 0, 0, 139), none, none, some (.bipush 25, 0, 0, 0, 0), none, some (.iload_n 1, 0, 0, 0, 0), some (.iadd, 0, 0, 0, 0), some (.iaload, 0, 0, 0, 0), some (.ireturn, 0, 0, 0, 0), some (.aload_n 0, 0, 0, 0, 0), some (.getfield 7, 11, 0, 0, 139), none, none, some (.bipush 50, 0, 0, 0, 0), none, some (.iload_n 1, 0, 0, 0, 0), some (.iadd, 0, 0, 0, 0), some (.iaload, 0, 0, 0, 0), some (.ireturn, 0, 0, 0, 0), some (.aload_n 0, 0, 0, 0, 0), some (.getfield 7, 11, 0, 0, 139), none, none, some (.bipush 75, 0, 0, 0, 0), none, some (.iload_n 1, 0, 0, 0, 0), some (.iadd, 0, 0, 0, 0), some (.iaload, 0, 0, 0, 0), some (.ireturn, 0, 0, 0, 0), some (.iconst 0, 0, 0, 0, 0), some (.istore_n 3, 0, 0, 0, 0), some (.iload_n 3, 0, 0, 0, 0), some (.aload_n 0, 0, 0, 0, 0), some (.getfield 7, 11, 0, 0, 139), none, none, some (.sipush 633, 0, 0, 0, 0), none, none, some (.iaload, 0, 0, 0, 0), some (.if_icmp .ge 25, 119, 0, 0, 0), none, none, some (.aload_n 0, 0, 0, 0, 0), some (.getfield 7, 11, 0, 0, 139), none, none, some (.sipush 250, 0, 0, 0, 0), none, none, some (.iload_n 3, 0, 0, 0, 0), some (.iadd, 0, 0, 0, 0), some (.iaload, 0, 0, 0, 0), some (.iload_n 1, 0, 0, 0, 0), some (.if_icmp .ne 5, 113, 0, 0, 0), none, none, some (.iload_n 3, 0, 0, 0, 0), some (.ireturn, 0, 0, 0, 0), some (.iinc 3 1, 0, 0, 0, 0), none, none, some (.goto (-31), 85, 0, 0, 0), none, none, some (.iconst (-1), 0, 0, 0, 0), some (.ireturn, 0, 0, 0, 0), some (.ldc 238, 0, 0, 1000000, 2), none, some (.ireturn, 0, 0, 0, 0)]
def zC_187 : List (Option zE) := [some (.iload_n 1, 0, 0, 0, 0), some (.iload_n 2, 0, 0, 0, 0), some (.invokestatic 107, 126, 1, 2, 130), none, none, some (.istore 4, 0, 0, 0, 0), none, some (.iload 4, 0, 0, 0, 0), none, some (.iconst (-1), 0, 0, 0, 0), some (.if_icmp .eq 12, 22, 0, 0, 0), none, none, some (.iload_n 3, 0, 0, 0, 0), some (.ifCond .lt 8, 22, 0, 0, 0), none, none, some (.iload_n 3, 0, 0, 0, 0), some (.iconst 2, 0, 0, 0, 0), some (.if_icmp .le 5, 24, 0, 0, 0), none, none, some (.iconst (-1), 0, 0, 0, 0), some (.ireturn, 0, 0, 0, 0), some (.aload_n 0, 0, 0, 0, 0), some (.getfield 7, 11, 0, 0, 139), none, none, some (.iload_n 3, 0, 0, 0, 0), some (.ifCond .ne 8, 37, 0, 0, 0), none, none, some (.bipush 100, 0, 0, 0, 0), none, some (.goto 17, 51, 0, 0, 0), none, none, some (.iload_n 3, 0, 0, 0, 0), some (.iconst 1, 0, 0, 0, 0), some (.if_icmp .ne 9, 48, 0, 0, 0), none, none, some (.sipush 150, 0, 0, 0, 0), none, none, some (.goto 6, 51, 0, 0, 0), none, none, some (.sipush 200, 0, 0, 0, 0), none, none, some (.iload 4, 0, 0, 0, 0), none, some (.iadd, 0, 0, 0, 0), some (.iaload, 0, 0, 0, 0), some (.ireturn, 0, 0, 0, 0)]
def zC_188_0 : List (Option zE) := [some (.iload_n 1, 0, 0, 0, 0), some (.bipush 10, 0, 0, 0, 0), none, some (.if_icmp .le 19, 22, 0, 0, 0), none, none, some (.iload_n 1, 0, 0, 0, 0), some (.bipush 18, 0, 0, 0, 0), none, some (.if_icmp .ge 13, 22, 0, 0, 0), none, none, some (.aload_n 0, 0, 0, 0, 0), some (.getfield 60, 11, 17, 0, 155), none, none, some (.iload_n 1, 0, 0, 0, 0), some (.bipush 10, 0, 0, 0, 0), none, some (.isub, 0, 0, 0, 0), some (.iaload, 0, 0, 0, 0), some (.ireturn, 0, 0, 0, 0), some (.iconst 0, 0, 0, 0, 0), some (.istore_n 2, 0, 0, 0, 0), some (.iload_n 1, 0, 0, 0, 0), some (.tableswitch 266 0 18 #[91, 100, 135, 144, 179, 188, 197, 202, 211, 220, 229, 266, 266, 266, 266, 266, 266, 266, 257], 0, 0, 0, 0), none, none, none, none, none, none, none, none, none, none, none, none, none, none, none, none, none, none, none, none, none, none, none, none, none, none, none, none, none, none, none, none, none, none, none, none, none, none, none, none, none, none, none, none, none, none, none, none, none, none, none, none, none, none, none, none, none, none, none, none, none, none, none, none, none, none, none, none, none, none, none, none, none, none, none, none, none, none, none, none, none, none, none, none, none, none, none, none, none, none, some (.aload_n 0, 0, 0, 0, 0), some (.getfield 7, 11, 0, 0, 139), none, none, some (.sipush 633, 0, 0, 0, 0), none, none, some (.iaload, 0, 0, 0, 0), some (.ireturn, 0, 0, 0, 0), some (.iconst 0, 0, 0, 0, 0), some (.istore_n 3, 0, 0, 0, 0), some (.iload_n 3, 0, 0, 0, 0), some (.aload_n 0, 0, 0, 0, 0), some (.getfield 7, 11, 0, 0, 139), none, none, some (.sipush 633, 0, 0, 0, 0), none, none, some (.iaload, 0, 0, 0, 0), some (.if_icmp .ge 22, 158, 0, 0, 0), none, none, some (.iload_n 2, 0, 0, 0, 0), some (.aload_n 0, 0, 0, 0, 0), some (.getfield 7, 11, 0, 0, 139), none, none, some (.sipush 253, 0, 0, 0, 0), none, none, some (.iload_n 3, 0, 0, 0, 0), some (.iadd, 0, 0, 0, 0), some (.iaload, 0, 0, 0, 0)]
def zC_188_1 : List (Option zE) := [some (.iadd, 0, 0, 0, 0), some (.istore_n 2, 0, 0, 0, 0), some (.iinc 3 1, 0, 0, 0, 0), none, none, some (.goto (-28), 127, 0, 0, 0), none, none, some (.iload_n 2, 0, 0, 0, 0), some (.ireturn, 0, 0, 0, 0), some (.aload_n 0, 0, 0, 0, 0), some (.getfield 7, 11, 0, 0, 139), none, none, some (.sipush 640, 0, 0, 0, 0), none, none, some (.iaload, 0, 0, 0, 0), some (.ireturn, 0, 0, 0, 0), some (.iconst 0, 0, 0, 0, 0), some (.istore_n 3, 0, 0, 0, 0), some (.iload_n 3, 0, 0, 0, 0), some (.aload_n 0, 0, 0, 0, 0), some (.getfield 7, 11, 0, 0, 139), none, none, some (.sipush 640, 0, 0, 0, 0), none, none, some (.iaload, 0, 0, 0, 0), some (.if_icmp .ge 22, 202, 0, 0, 0), none, none, some (.iload_n 2, 0, 0, 0, 0), some (.aload_n 0, 0, 0, 0, 0), some (.getfield 7, 11, 0, 0, 139), none, none, some (.sipush 628, 0, 0, 0, 0), none, none, some (.iload_n 3, 0, 0, 0, 0), some (.iadd, 0, 0, 0, 0), some (.iaload, 0, 0, 0, 0), some (.iadd, 0, 0, 0, 0), some (.istore_n 2, 0, 0, 0, 0), some (.iinc 3 1, 0, 0, 0, 0), none, none, some (.goto (-28), 171, 0, 0, 0), none, none, some (.iload_n 2, 0, 0, 0, 0), some (.ireturn, 0, 0, 0, 0), some (.aload_n 0, 0, 0, 0, 0), some (.getfield 7, 11, 0, 0, 139), none, none, some (.sipush 641, 0, 0, 0, 0), none, none, some (.iaload, 0, 0, 0, 0), some (.ireturn, 0, 0, 0, 0), some (.aload_n 0, 0, 0, 0, 0), some (.getfield 7, 11, 0, 0, 139), none, none, some (.sipush 642, 0, 0, 0, 0), none, none, some (.iaload, 0, 0, 0, 0), some (.ireturn, 0, 0, 0, 0), some (.aload_n 0, 0, 0, 0, 0), some (.invokevirtual 189, 160, 0, 1, 145), none, none, some (.ireturn, 0, 0, 0, 0), some (.aload_n 0, 0, 0, 0, 0), some (.getfield 7, 11, 0, 0, 139), none, none, some (.sipush 634, 0, 0, 0, 0), none, none, some (.iaload, 0, 0, 0, 0), some (.ireturn, 0, 0, 0, 0), some (.aload_n 0, 0, 0, 0, 0), some (.getfield 7, 11, 0, 0, 139), none, none, some (.sipush 643, 0, 0, 0, 0), none, none, some (.iaload, 0, 0, 0, 0), some (.ireturn, 0, 0, 0, 0), some (.aload_n 0, 0, 0, 0, 0), some (.getfield 7, 11, 0, 0, 139), none, none, some (.sipush 644, 0, 0, 0, 0), none, none, some (.iaload, 0, 0, 0, 0), some (.ireturn, 0, 0, 0, 0), some (.iconst 0, 0, 0, 0, 0), some (.istore_n 3, 0, 0, 0, 0), some (.iload_n 3, 0, 0, 0, 0), some (.bipush 25, 0, 0, 0, 0), none, some (.if_icmp .ge 21, 280, 0, 0, 0), none, none, some (.iload_n 2, 0, 0, 0, 0), some (.aload_n 0, 0, 0, 0, 0), some (.getfield 7, 11, 0, 0, 139), none, none, some (.bipush 25, 0, 0, 0, 0), none, some (.iload_n 3, 0, 0, 0, 0), some (.iadd, 0, 0, 0, 0), some (.iaload, 0, 0, 0, 0), some (.iadd, 0, 0, 0, 0), some (.istore_n 2, 0, 0, 0, 0), some (.iinc 3 1, 0, 0, 0, 0), none, none, some (.goto (-21), 256, 0, 0, 0), none, none, some (.iload_n 2, 0, 0, 0, 0), some (.ireturn, 0, 0, 0, 0), some (.aload_n 0, 0, 0, 0, 0), some (.getfield 7, 11, 0, 0, 139), none, none, some (.sipush 645, 0, 0, 0, 0), none, none, some (.iaload, 0, 0, 0, 0), some (.ireturn, 0, 0, 0, 0), some (.ldc 239, 0, 0, -1000001, 3), none, some (.ireturn, 0, 0, 0, 0)]
def zC_188 : List (Option zE) := zC_188_0 ++ (zC_188_1)
def zC_189 : List (Option zE) := [some (.iconst 0, 0, 0, 0, 0), some (.istore_n 3, 0, 0, 0, 0), some (.aload_n 0, 0, 0, 0, 0), some (.arraylength, 0, 0, 0, 0), some (.istore 4, 0, 0, 0, 0), none, some (.iload_n 3, 0, 0, 0, 0), some (.iload 4, 0, 0, 0, 0), none, some (.if_icmp .ge 13, 22, 0, 0, 0), none, none, some (.aload_n 0, 0, 0, 0, 0), some (.iload_n 3, 0, 0, 0, 0), some (.lload_n 1, 0, 0, 0, 0), some (.lastore, 0, 0, 0, 0), some (.iinc 3 1, 0, 0, 0, 0), none, none, some (.goto (-13), 6, 0, 0, 0), none, none, some (.return_, 0, 0, 0, 0)]
def zC_190 : List (Option zE) := [some (.iconst 0, 0, 0, 0, 0), some (.istore_n 2, 0, 0, 0, 0), some (.aload_n 0, 0, 0, 0, 0), some (.arraylength, 0, 0, 0, 0), some (.istore_n 3, 0, 0, 0, 0), some (.iload_n 2, 0, 0, 0, 0), some (.iload_n 3, 0, 0, 0, 0), some (.if_icmp .ge 13, 20, 0, 0, 0), none, none, some (.aload_n 0, 0, 0, 0, 0), some (.iload_n 2, 0, 0, 0, 0), some (.iload_n 1, 0, 0, 0, 0), some (.iastore, 0, 0, 0, 0), some (.iinc 2 1, 0, 0, 0, 0), none, none, some (.goto (-12), 5, 0, 0, 0), none, none, some (.return_, 0, 0, 0, 0)]
def zC_191_0 : List (Option zE) := [some (.new 7, 10, 0, 0, 11), none, none, some (.dup, 0, 0, 0, 0), some (.invokespecial 9, 74, 2, 1, 156), none, none, some (.astore_n 1, 0, 0, 0, 0), some (.new 10, 11, 0, 0, 12), none, none, some (.dup, 0, 0, 0, 0), some (.invokespecial 12, 122, 2, 1, 157), none, none, some (.astore_n 2, 0, 0, 0, 0), some (.iconst 0, 0, 0, 0, 0), some (.istore_n 3, 0, 0, 0, 0), some (.iload_n 3, 0, 0, 0, 0), some (.aload_n 0, 0, 0, 0, 0), some (.arraylength, 0, 0, 0, 0), some (.bipush 6, 0, 0, 0, 0), none, some (.isub, 0, 0, 0, 0), some (.if_icmp .gt 1593, 1617, 0, 0, 0), none, none, some (.aload_n 0, 0, 0, 0, 0), some (.iload_n 3, 0, 0, 0, 0), some (.iaload, 0, 0, 0, 0), some (.bipush 63, 0, 0, 0, 0), none, some (.iand, 0, 0, 0, 0), some (.tableswitch 1578 0 37 #[167, 200, 233, 292, 351, 394, 417, 466, 509, 582, 645, 679, 712, 735, 768, 817, 866, 899, 922, 935, 984, 1007, 1070, 1103, 1136, 1199, 1232, 1255, 1298, 1331, 1354, 1387, 1420, 1453, 1466, 1479, 1512, 1555], 0, 0, 0, 0), none, none, none, none, none, none, none, none, none, none, none, none, none, none, none, none, none, none, none, none, none, none, none, none, none, none, none, none, none, none, none, none, none, none, none, none, none, none, none, none, none, none, none, none, none, none, none, none, none, none, none, none, none, none, none, none, none, none, none, none, none, none, none, none, none, none, none, none, none, none, none, none, none, none, none, none, none, none, none, none, none, none, none, none, none, none, none, none, none, none, none, none, none, none, none, none, none, none, none, none, none, none, none, none, none, none, none, none, none, none, none, none, none, none, none, none]
def zC_191_1 : List (Option zE) := [none, none, none, none, none, none, none, none, none, none, none, none, none, none, none, none, none, none, none, none, none, none, none, none, none, none, none, none, none, none, none, none, none, none, none, none, none, none, none, none, none, none, none, none, none, none, none, none, none, none, some (.aload_n 1, 0, 0, 0, 0), some (.aload_n 0, 0, 0, 0, 0), some (.iload_n 3, 0, 0, 0, 0), some (.iconst 1, 0, 0, 0, 0), some (.iadd, 0, 0, 0, 0), some (.iaload, 0, 0, 0, 0), some (.aload_n 0, 0, 0, 0, 0), some (.iload_n 3, 0, 0, 0, 0), some (.iconst 2, 0, 0, 0, 0), some (.iadd, 0, 0, 0, 0), some (.iaload, 0, 0, 0, 0), some (.invokevirtual 13, 75, 0, 3, 158), none, none, some (.aload_n 2, 0, 0, 0, 0), some (.aload_n 0, 0, 0, 0, 0), some (.iload_n 3, 0, 0, 0, 0), some (.iconst 1, 0, 0, 0, 0), some (.iadd, 0, 0, 0, 0), some (.iaload, 0, 0, 0, 0), some (.aload_n 0, 0, 0, 0, 0), some (.iload_n 3, 0, 0, 0, 0), some (.iconst 2, 0, 0, 0, 0), some (.iadd, 0, 0, 0, 0), some (.iaload, 0, 0, 0, 0), some (.invokevirtual 17, 127, 0, 3, 159), none, none, some (.if_icmp .eq 1383, 1611, 0, 0, 0), none, none, some (.iconst 0, 0, 0, 0, 0), some (.ireturn, 0, 0, 0, 0), some (.aload_n 1, 0, 0, 0, 0), some (.aload_n 0, 0, 0, 0, 0), some (.iload_n 3, 0, 0, 0, 0), some (.iconst 1, 0, 0, 0, 0), some (.iadd, 0, 0, 0, 0), some (.iaload, 0, 0, 0, 0), some (.aload_n 0, 0, 0, 0, 0), some (.iload_n 3, 0, 0, 0, 0), some (.iconst 2, 0, 0, 0, 0), some (.iadd, 0, 0, 0, 0), some (.iaload, 0, 0, 0, 0), some (.invokevirtual 18, 76, 0, 3, 160), none, none, some (.aload_n 2, 0, 0, 0, 0), some (.aload_n 0, 0, 0, 0, 0), some (.iload_n 3, 0, 0, 0, 0), some (.iconst 1, 0, 0, 0, 0), some (.iadd, 0, 0, 0, 0), some (.iaload, 0, 0, 0, 0), some (.aload_n 0, 0, 0, 0, 0), some (.iload_n 3, 0, 0, 0, 0), some (.iconst 2, 0, 0, 0, 0), some (.iadd, 0, 0, 0, 0), some (.iaload, 0, 0, 0, 0), some (.invokevirtual 21, 128, 0, 3, 161), none, none, some (.if_icmp .eq 1350, 1611, 0, 0, 0), none, none, some (.iconst 0, 0, 0, 0, 0), some (.ireturn, 0, 0, 0, 0), some (.aload_n 1, 0, 0, 0, 0), some (.aload_n 0, 0, 0, 0, 0), some (.iload_n 3, 0, 0, 0, 0), some (.iconst 1, 0, 0, 0, 0), some (.iadd, 0, 0, 0, 0), some (.iaload, 0, 0, 0, 0), some (.aload_n 0, 0, 0, 0, 0), some (.iload_n 3, 0, 0, 0, 0), some (.iconst 2, 0, 0, 0, 0), some (.iadd, 0, 0, 0, 0), some (.iaload, 0, 0, 0, 0), some (.aload_n 0, 0, 0, 0, 0), some (.iload_n 3, 0, 0, 0, 0), some (.iconst 3, 0, 0, 0, 0), some (.iadd, 0, 0, 0, 0), some (.iaload, 0, 0, 0, 0), some (.ifCond .eq 7, 289, 0, 0, 0), none, none, some (.iconst 1, 0, 0, 0, 0), some (.goto 4, 290, 0, 0, 0), none, none, some (.iconst 0, 0, 0, 0, 0), some (.invokevirtual 22, 77, 0, 4, 162), none, none, some (.aload_n 2, 0, 0, 0, 0), some (.aload_n 0, 0, 0, 0, 0), some (.iload_n 3, 0, 0, 0, 0), some (.iconst 1, 0, 0, 0, 0), some (.iadd, 0, 0, 0, 0), some (.iaload, 0, 0, 0, 0), some (.aload_n 0, 0, 0, 0, 0)]
def zC_191_2 : List (Option zE) := [some (.iload_n 3, 0, 0, 0, 0), some (.iconst 2, 0, 0, 0, 0), some (.iadd, 0, 0, 0, 0), some (.iaload, 0, 0, 0, 0), some (.aload_n 0, 0, 0, 0, 0), some (.iload_n 3, 0, 0, 0, 0), some (.iconst 3, 0, 0, 0, 0), some (.iadd, 0, 0, 0, 0), some (.iaload, 0, 0, 0, 0), some (.ifCond .eq 7, 316, 0, 0, 0), none, none, some (.iconst 1, 0, 0, 0, 0), some (.goto 4, 317, 0, 0, 0), none, none, some (.iconst 0, 0, 0, 0, 0), some (.invokevirtual 26, 130, 0, 4, 163), none, none, some (.if_icmp .eq 1291, 1611, 0, 0, 0), none, none, some (.iconst 0, 0, 0, 0, 0), some (.ireturn, 0, 0, 0, 0), some (.aload_n 1, 0, 0, 0, 0), some (.aload_n 0, 0, 0, 0, 0), some (.iload_n 3, 0, 0, 0, 0), some (.iconst 1, 0, 0, 0, 0), some (.iadd, 0, 0, 0, 0), some (.iaload, 0, 0, 0, 0), some (.aload_n 0, 0, 0, 0, 0), some (.iload_n 3, 0, 0, 0, 0), some (.iconst 2, 0, 0, 0, 0), some (.iadd, 0, 0, 0, 0), some (.iaload, 0, 0, 0, 0), some (.aload_n 0, 0, 0, 0, 0), some (.iload_n 3, 0, 0, 0, 0), some (.iconst 3, 0, 0, 0, 0), some (.iadd, 0, 0, 0, 0), some (.iaload, 0, 0, 0, 0), some (.ifCond .eq 7, 348, 0, 0, 0), none, none, some (.iconst 1, 0, 0, 0, 0), some (.goto 4, 349, 0, 0, 0), none, none, some (.iconst 0, 0, 0, 0, 0), some (.invokevirtual 27, 78, 0, 4, 164), none, none, some (.aload_n 2, 0, 0, 0, 0), some (.aload_n 0, 0, 0, 0, 0), some (.iload_n 3, 0, 0, 0, 0), some (.iconst 1, 0, 0, 0, 0), some (.iadd, 0, 0, 0, 0), some (.iaload, 0, 0, 0, 0), some (.aload_n 0, 0, 0, 0, 0), some (.iload_n 3, 0, 0, 0, 0), some (.iconst 2, 0, 0, 0, 0), some (.iadd, 0, 0, 0, 0), some (.iaload, 0, 0, 0, 0), some (.aload_n 0, 0, 0, 0, 0), some (.iload_n 3, 0, 0, 0, 0), some (.iconst 3, 0, 0, 0, 0), some (.iadd, 0, 0, 0, 0), some (.iaload, 0, 0, 0, 0), some (.ifCond .eq 7, 375, 0, 0, 0), none, none, some (.iconst 1, 0, 0, 0, 0), some (.goto 4, 376, 0, 0, 0), none, none, some (.iconst 0, 0, 0, 0, 0), some (.invokevirtual 30, 131, 0, 4, 165), none, none, some (.if_icmp .eq 1232, 1611, 0, 0, 0), none, none, some (.iconst 0, 0, 0, 0, 0), some (.ireturn, 0, 0, 0, 0), some (.aload_n 1, 0, 0, 0, 0), some (.aload_n 0, 0, 0, 0, 0), some (.iload_n 3, 0, 0, 0, 0), some (.iconst 1, 0, 0, 0, 0), some (.iadd, 0, 0, 0, 0), some (.iaload, 0, 0, 0, 0), some (.aload_n 0, 0, 0, 0, 0), some (.iload_n 3, 0, 0, 0, 0), some (.iconst 2, 0, 0, 0, 0), some (.iadd, 0, 0, 0, 0), some (.iaload, 0, 0, 0, 0), some (.aload_n 0, 0, 0, 0, 0), some (.iload_n 3, 0, 0, 0, 0), some (.iconst 3, 0, 0, 0, 0), some (.iadd, 0, 0, 0, 0), some (.iaload, 0, 0, 0, 0), some (.invokevirtual 31, 79, 0, 4, 166), none, none, some (.aload_n 2, 0, 0, 0, 0), some (.aload_n 0, 0, 0, 0, 0), some (.iload_n 3, 0, 0, 0, 0), some (.iconst 1, 0, 0, 0, 0), some (.iadd, 0, 0, 0, 0), some (.iaload, 0, 0, 0, 0), some (.aload_n 0, 0, 0, 0, 0), some (.iload_n 3, 0, 0, 0, 0), some (.iconst 2, 0, 0, 0, 0), some (.iadd, 0, 0, 0, 0), some (.iaload, 0, 0, 0, 0), some (.aload_n 0, 0, 0, 0, 0), some (.iload_n 3, 0, 0, 0, 0), some (.iconst 3, 0, 0, 0, 0), some (.iadd, 0, 0, 0, 0), some (.iaload, 0, 0, 0, 0), some (.invokevirtual 35, 132, 0, 4, 167), none, none, some (.if_icmp .eq 1189, 1611, 0, 0, 0), none, none, some (.iconst 0, 0, 0, 0, 0), some (.ireturn, 0, 0, 0, 0), some (.aload_n 1, 0, 0, 0, 0), some (.aload_n 0, 0, 0, 0, 0), some (.iload_n 3, 0, 0, 0, 0), some (.iconst 1, 0, 0, 0, 0), some (.iadd, 0, 0, 0, 0), some (.iaload, 0, 0, 0, 0), some (.invokevirtual 36, 81, 0, 2, 168), none, none, some (.aload_n 2, 0, 0, 0, 0), some (.aload_n 0, 0, 0, 0, 0), some (.iload_n 3, 0, 0, 0, 0), some (.iconst 1, 0, 0, 0, 0), some (.iadd, 0, 0, 0, 0), some (.iaload, 0, 0, 0, 0), some (.invokevirtual 40, 133, 0, 2, 169), none, none, some (.if_icmp .eq 1166, 1611, 0, 0, 0), none, none, some (.iconst 0, 0, 0, 0, 0), some (.ireturn, 0, 0, 0, 0)]
def zC_191_3 : List (Option zE) := [some (.aload_n 1, 0, 0, 0, 0), some (.aload_n 0, 0, 0, 0, 0), some (.iload_n 3, 0, 0, 0, 0), some (.iconst 1, 0, 0, 0, 0), some (.iadd, 0, 0, 0, 0), some (.iaload, 0, 0, 0, 0), some (.aload_n 0, 0, 0, 0, 0), some (.iload_n 3, 0, 0, 0, 0), some (.iconst 2, 0, 0, 0, 0), some (.iadd, 0, 0, 0, 0), some (.iaload, 0, 0, 0, 0), some (.ifCond .eq 7, 468, 0, 0, 0), none, none, some (.iconst 1, 0, 0, 0, 0), some (.goto 4, 469, 0, 0, 0), none, none, some (.iconst 0, 0, 0, 0, 0), some (.invokevirtual 41, 82, 0, 3, 170), none, none, some (.aload_n 2, 0, 0, 0, 0), some (.aload_n 0, 0, 0, 0, 0), some (.iload_n 3, 0, 0, 0, 0), some (.iconst 1, 0, 0, 0, 0), some (.iadd, 0, 0, 0, 0), some (.iaload, 0, 0, 0, 0), some (.aload_n 0, 0, 0, 0, 0), some (.iload_n 3, 0, 0, 0, 0), some (.iconst 2, 0, 0, 0, 0), some (.iadd, 0, 0, 0, 0), some (.iaload, 0, 0, 0, 0), some (.ifCond .eq 7, 490, 0, 0, 0), none, none, some (.iconst 1, 0, 0, 0, 0), some (.goto 4, 491, 0, 0, 0), none, none, some (.iconst 0, 0, 0, 0, 0), some (.invokevirtual 45, 134, 0, 3, 171), none, none, some (.if_icmp .eq 1117, 1611, 0, 0, 0), none, none, some (.iconst 0, 0, 0, 0, 0), some (.ireturn, 0, 0, 0, 0), some (.aload_n 1, 0, 0, 0, 0), some (.aload_n 0, 0, 0, 0, 0), some (.iload_n 3, 0, 0, 0, 0), some (.iconst 1, 0, 0, 0, 0), some (.iadd, 0, 0, 0, 0), some (.iaload, 0, 0, 0, 0), some (.aload_n 0, 0, 0, 0, 0), some (.iload_n 3, 0, 0, 0, 0), some (.iconst 2, 0, 0, 0, 0), some (.iadd, 0, 0, 0, 0), some (.iaload, 0, 0, 0, 0), some (.aload_n 0, 0, 0, 0, 0), some (.iload_n 3, 0, 0, 0, 0), some (.iconst 3, 0, 0, 0, 0), some (.iadd, 0, 0, 0, 0), some (.iaload, 0, 0, 0, 0), some (.invokevirtual 46, 83, 0, 4, 172), none, none, some (.aload_n 2, 0, 0, 0, 0), some (.aload_n 0, 0, 0, 0, 0), some (.iload_n 3, 0, 0, 0, 0), some (.iconst 1, 0, 0, 0, 0), some (.iadd, 0, 0, 0, 0), some (.iaload, 0, 0, 0, 0), some (.aload_n 0, 0, 0, 0, 0), some (.iload_n 3, 0, 0, 0, 0), some (.iconst 2, 0, 0, 0, 0), some (.iadd, 0, 0, 0, 0), some (.iaload, 0, 0, 0, 0), some (.aload_n 0, 0, 0, 0, 0), some (.iload_n 3, 0, 0, 0, 0), some (.iconst 3, 0, 0, 0, 0), some (.iadd, 0, 0, 0, 0), some (.iaload, 0, 0, 0, 0), some (.invokevirtual 49, 135, 0, 4, 173), none, none, some (.if_icmp .eq 1074, 1611, 0, 0, 0), none, none, some (.iconst 0, 0, 0, 0, 0), some (.ireturn, 0, 0, 0, 0), some (.aload_n 1, 0, 0, 0, 0), some (.aload_n 0, 0, 0, 0, 0), some (.iload_n 3, 0, 0, 0, 0), some (.iconst 1, 0, 0, 0, 0), some (.iadd, 0, 0, 0, 0), some (.iaload, 0, 0, 0, 0), some (.aload_n 0, 0, 0, 0, 0), some (.iload_n 3, 0, 0, 0, 0), some (.iconst 2, 0, 0, 0, 0), some (.iadd, 0, 0, 0, 0), some (.iaload, 0, 0, 0, 0), some (.aload_n 0, 0, 0, 0, 0), some (.iload_n 3, 0, 0, 0, 0), some (.iconst 3, 0, 0, 0, 0), some (.iadd, 0, 0, 0, 0), some (.iaload, 0, 0, 0, 0), some (.i2l, 0, 0, 0, 0), some (.bipush 32, 0, 0, 0, 0), none, some (.lshl, 0, 0, 0, 0), some (.aload_n 0, 0, 0, 0, 0), some (.iload_n 3, 0, 0, 0, 0), some (.iconst 4, 0, 0, 0, 0), some (.iadd, 0, 0, 0, 0), some (.iaload, 0, 0, 0, 0), some (.i2l, 0, 0, 0, 0), some (.ldc2_w 50, 0, 0, 4294967295, 9), none, none, some (.land, 0, 0, 0, 0), some (.lor, 0, 0, 0, 0), some (.invokevirtual 52, 84, 0, 4, 174), none, none, some (.aload_n 2, 0, 0, 0, 0), some (.aload_n 0, 0, 0, 0, 0), some (.iload_n 3, 0, 0, 0, 0), some (.iconst 1, 0, 0, 0, 0), some (.iadd, 0, 0, 0, 0), some (.iaload, 0, 0, 0, 0), some (.aload_n 0, 0, 0, 0, 0), some (.iload_n 3, 0, 0, 0, 0), some (.iconst 2, 0, 0, 0, 0), some (.iadd, 0, 0, 0, 0), some (.iaload, 0, 0, 0, 0), some (.aload_n 0, 0, 0, 0, 0), some (.iload_n 3, 0, 0, 0, 0), some (.iconst 3, 0, 0, 0, 0), some (.iadd, 0, 0, 0, 0), some (.iaload, 0, 0, 0, 0), some (.i2l, 0, 0, 0, 0), some (.bipush 32, 0, 0, 0, 0), none, some (.lshl, 0, 0, 0, 0), some (.aload_n 0, 0, 0, 0, 0), some (.iload_n 3, 0, 0, 0, 0), some (.iconst 4, 0, 0, 0, 0), some (.iadd, 0, 0, 0, 0)]
def zC_191_4 : List (Option zE) := [some (.iaload, 0, 0, 0, 0), some (.i2l, 0, 0, 0, 0), some (.ldc2_w 50, 0, 0, 4294967295, 9), none, none, some (.land, 0, 0, 0, 0), some (.lor, 0, 0, 0, 0), some (.invokevirtual 56, 136, 0, 4, 175), none, none, some (.if_icmp .eq 1001, 1611, 0, 0, 0), none, none, some (.iconst 0, 0, 0, 0, 0), some (.ireturn, 0, 0, 0, 0), some (.aload_n 1, 0, 0, 0, 0), some (.aload_n 0, 0, 0, 0, 0), some (.iload_n 3, 0, 0, 0, 0), some (.iconst 1, 0, 0, 0, 0), some (.iadd, 0, 0, 0, 0), some (.iaload, 0, 0, 0, 0), some (.aload_n 0, 0, 0, 0, 0), some (.iload_n 3, 0, 0, 0, 0), some (.iconst 2, 0, 0, 0, 0), some (.iadd, 0, 0, 0, 0), some (.iaload, 0, 0, 0, 0), some (.aload_n 0, 0, 0, 0, 0), some (.iload_n 3, 0, 0, 0, 0), some (.iconst 3, 0, 0, 0, 0), some (.iadd, 0, 0, 0, 0), some (.iaload, 0, 0, 0, 0), some (.aload_n 0, 0, 0, 0, 0), some (.iload_n 3, 0, 0, 0, 0), some (.iconst 4, 0, 0, 0, 0), some (.iadd, 0, 0, 0, 0), some (.iaload, 0, 0, 0, 0), some (.aload_n 0, 0, 0, 0, 0), some (.iload_n 3, 0, 0, 0, 0), some (.iconst 5, 0, 0, 0, 0), some (.iadd, 0, 0, 0, 0), some (.iaload, 0, 0, 0, 0), some (.invokevirtual 57, 85, 0, 6, 176), none, none, some (.aload_n 2, 0, 0, 0, 0), some (.aload_n 0, 0, 0, 0, 0), some (.iload_n 3, 0, 0, 0, 0), some (.iconst 1, 0, 0, 0, 0), some (.iadd, 0, 0, 0, 0), some (.iaload, 0, 0, 0, 0), some (.aload_n 0, 0, 0, 0, 0), some (.iload_n 3, 0, 0, 0, 0), some (.iconst 2, 0, 0, 0, 0), some (.iadd, 0, 0, 0, 0), some (.iaload, 0, 0, 0, 0), some (.aload_n 0, 0, 0, 0, 0), some (.iload_n 3, 0, 0, 0, 0), some (.iconst 3, 0, 0, 0, 0), some (.iadd, 0, 0, 0, 0), some (.iaload, 0, 0, 0, 0), some (.aload_n 0, 0, 0, 0, 0), some (.iload_n 3, 0, 0, 0, 0), some (.iconst 4, 0, 0, 0, 0), some (.iadd, 0, 0, 0, 0), some (.iaload, 0, 0, 0, 0), some (.aload_n 0, 0, 0, 0, 0), some (.iload_n 3, 0, 0, 0, 0), some (.iconst 5, 0, 0, 0, 0), some (.iadd, 0, 0, 0, 0), some (.iaload, 0, 0, 0, 0), some (.invokevirtual 61, 137, 0, 6, 177), none, none, some (.if_icmp .eq 938, 1611, 0, 0, 0), none, none, some (.iconst 0, 0, 0, 0, 0), some (.ireturn, 0, 0, 0, 0), some (.aload_n 1, 0, 0, 0, 0), some (.aload_n 0, 0, 0, 0, 0), some (.iload_n 3, 0, 0, 0, 0), some (.iconst 1, 0, 0, 0, 0), some (.iadd, 0, 0, 0, 0), some (.iaload, 0, 0, 0, 0), some (.aload_n 0, 0, 0, 0, 0), some (.iload_n 3, 0, 0, 0, 0), some (.iconst 2, 0, 0, 0, 0), some (.iadd, 0, 0, 0, 0), some (.iaload, 0, 0, 0, 0), some (.invokevirtual 62, 86, 0, 3, 178), none, none, some (.aload_n 2, 0, 0, 0, 0), some (.aload_n 0, 0, 0, 0, 0), some (.iload_n 3, 0, 0, 0, 0), some (.iconst 1, 0, 0, 0, 0), some (.iadd, 0, 0, 0, 0), some (.iaload, 0, 0, 0, 0), some (.aload_n 0, 0, 0, 0, 0), some (.iload_n 3, 0, 0, 0, 0), some (.iconst 2, 0, 0, 0, 0), some (.iadd, 0, 0, 0, 0), some (.iaload, 0, 0, 0, 0), some (.invokevirtual 66, 138, 0, 3, 179), none, none, some (.lcmp, 0, 0, 0, 0), some (.ifCond .eq 904, 1611, 0, 0, 0), none, none, some (.iconst 0, 0, 0, 0, 0), some (.ireturn, 0, 0, 0, 0), some (.aload_n 1, 0, 0, 0, 0), some (.aload_n 0, 0, 0, 0, 0), some (.iload_n 3, 0, 0, 0, 0), some (.iconst 1, 0, 0, 0, 0), some (.iadd, 0, 0, 0, 0), some (.iaload, 0, 0, 0, 0), some (.aload_n 0, 0, 0, 0, 0), some (.iload_n 3, 0, 0, 0, 0), some (.iconst 2, 0, 0, 0, 0), some (.iadd, 0, 0, 0, 0), some (.iaload, 0, 0, 0, 0), some (.invokevirtual 67, 87, 0, 3, 180), none, none, some (.aload_n 2, 0, 0, 0, 0), some (.aload_n 0, 0, 0, 0, 0), some (.iload_n 3, 0, 0, 0, 0), some (.iconst 1, 0, 0, 0, 0), some (.iadd, 0, 0, 0, 0), some (.iaload, 0, 0, 0, 0), some (.aload_n 0, 0, 0, 0, 0), some (.iload_n 3, 0, 0, 0, 0), some (.iconst 2, 0, 0, 0, 0), some (.iadd, 0, 0, 0, 0), some (.iaload, 0, 0, 0, 0), some (.invokevirtual 70, 140, 0, 3, 181), none, none, some (.if_icmp .eq 871, 1611, 0, 0, 0), none, none, some (.iconst 0, 0, 0, 0, 0), some (.ireturn, 0, 0, 0, 0), some (.aload_n 1, 0, 0, 0, 0), some (.aload_n 0, 0, 0, 0, 0), some (.iload_n 3, 0, 0, 0, 0), some (.iconst 1, 0, 0, 0, 0), some (.iadd, 0, 0, 0, 0)]
def zC_191_5 : List (Option zE) := [some (.iaload, 0, 0, 0, 0), some (.invokevirtual 71, 88, 0, 2, 182), none, none, some (.aload_n 2, 0, 0, 0, 0), some (.aload_n 0, 0, 0, 0, 0), some (.iload_n 3, 0, 0, 0, 0), some (.iconst 1, 0, 0, 0, 0), some (.iadd, 0, 0, 0, 0), some (.iaload, 0, 0, 0, 0), some (.invokevirtual 74, 141, 0, 2, 183), none, none, some (.if_icmp .eq 848, 1611, 0, 0, 0), none, none, some (.iconst 0, 0, 0, 0, 0), some (.ireturn, 0, 0, 0, 0), some (.aload_n 1, 0, 0, 0, 0), some (.aload_n 0, 0, 0, 0, 0), some (.iload_n 3, 0, 0, 0, 0), some (.iconst 1, 0, 0, 0, 0), some (.iadd, 0, 0, 0, 0), some (.iaload, 0, 0, 0, 0), some (.aload_n 0, 0, 0, 0, 0), some (.iload_n 3, 0, 0, 0, 0), some (.iconst 2, 0, 0, 0, 0), some (.iadd, 0, 0, 0, 0), some (.iaload, 0, 0, 0, 0), some (.invokevirtual 75, 89, 0, 3, 184), none, none, some (.aload_n 2, 0, 0, 0, 0), some (.aload_n 0, 0, 0, 0, 0), some (.iload_n 3, 0, 0, 0, 0), some (.iconst 1, 0, 0, 0, 0), some (.iadd, 0, 0, 0, 0), some (.iaload, 0, 0, 0, 0), some (.aload_n 0, 0, 0, 0, 0), some (.iload_n 3, 0, 0, 0, 0), some (.iconst 2, 0, 0, 0, 0), some (.iadd, 0, 0, 0, 0), some (.iaload, 0, 0, 0, 0), some (.invokevirtual 78, 142, 0, 3, 185), none, none, some (.if_icmp .eq 815, 1611, 0, 0, 0), none, none, some (.iconst 0, 0, 0, 0, 0), some (.ireturn, 0, 0, 0, 0), some (.aload_n 1, 0, 0, 0, 0), some (.aload_n 0, 0, 0, 0, 0), some (.iload_n 3, 0, 0, 0, 0), some (.iconst 1, 0, 0, 0, 0), some (.iadd, 0, 0, 0, 0), some (.iaload, 0, 0, 0, 0), some (.aload_n 0, 0, 0, 0, 0), some (.iload_n 3, 0, 0, 0, 0), some (.iconst 2, 0, 0, 0, 0), some (.iadd, 0, 0, 0, 0), some (.iaload, 0, 0, 0, 0), some (.ifCond .eq 7, 819, 0, 0, 0), none, none, some (.iconst 1, 0, 0, 0, 0), some (.goto 4, 820, 0, 0, 0), none, none, some (.iconst 0, 0, 0, 0, 0), some (.invokevirtual 79, 90, 0, 3, 186), none, none, some (.aload_n 2, 0, 0, 0, 0), some (.aload_n 0, 0, 0, 0, 0), some (.iload_n 3, 0, 0, 0, 0), some (.iconst 1, 0, 0, 0, 0), some (.iadd, 0, 0, 0, 0), some (.iaload, 0, 0, 0, 0), some (.aload_n 0, 0, 0, 0, 0), some (.iload_n 3, 0, 0, 0, 0), some (.iconst 2, 0, 0, 0, 0), some (.iadd, 0, 0, 0, 0), some (.iaload, 0, 0, 0, 0), some (.ifCond .eq 7, 841, 0, 0, 0), none, none, some (.iconst 1, 0, 0, 0, 0), some (.goto 4, 842, 0, 0, 0), none, none, some (.iconst 0, 0, 0, 0, 0), some (.invokevirtual 82, 144, 0, 3, 187), none, none, some (.if_icmp .eq 766, 1611, 0, 0, 0), none, none, some (.iconst 0, 0, 0, 0, 0), some (.ireturn, 0, 0, 0, 0), some (.aload_n 1, 0, 0, 0, 0), some (.aload_n 0, 0, 0, 0, 0), some (.iload_n 3, 0, 0, 0, 0), some (.iconst 1, 0, 0, 0, 0), some (.iadd, 0, 0, 0, 0), some (.iaload, 0, 0, 0, 0), some (.aload_n 0, 0, 0, 0, 0), some (.iload_n 3, 0, 0, 0, 0), some (.iconst 2, 0, 0, 0, 0), some (.iadd, 0, 0, 0, 0), some (.iaload, 0, 0, 0, 0), some (.ifCond .eq 7, 868, 0, 0, 0), none, none, some (.iconst 1, 0, 0, 0, 0), some (.goto 4, 869, 0, 0, 0), none, none, some (.iconst 0, 0, 0, 0, 0), some (.invokevirtual 83, 91, 0, 3, 188), none, none, some (.aload_n 2, 0, 0, 0, 0), some (.aload_n 0, 0, 0, 0, 0), some (.iload_n 3, 0, 0, 0, 0), some (.iconst 1, 0, 0, 0, 0), some (.iadd, 0, 0, 0, 0), some (.iaload, 0, 0, 0, 0), some (.aload_n 0, 0, 0, 0, 0), some (.iload_n 3, 0, 0, 0, 0), some (.iconst 2, 0, 0, 0, 0), some (.iadd, 0, 0, 0, 0), some (.iaload, 0, 0, 0, 0), some (.ifCond .eq 7, 890, 0, 0, 0), none, none, some (.iconst 1, 0, 0, 0, 0), some (.goto 4, 891, 0, 0, 0), none, none, some (.iconst 0, 0, 0, 0, 0), some (.invokevirtual 86, 146, 0, 3, 189), none, none, some (.if_icmp .eq 717, 1611, 0, 0, 0), none, none, some (.iconst 0, 0, 0, 0, 0), some (.ireturn, 0, 0, 0, 0), some (.aload_n 1, 0, 0, 0, 0)]
def zC_191_6 : List (Option zE) := [some (.aload_n 0, 0, 0, 0, 0), some (.iload_n 3, 0, 0, 0, 0), some (.iconst 1, 0, 0, 0, 0), some (.iadd, 0, 0, 0, 0), some (.iaload, 0, 0, 0, 0), some (.aload_n 0, 0, 0, 0, 0), some (.iload_n 3, 0, 0, 0, 0), some (.iconst 2, 0, 0, 0, 0), some (.iadd, 0, 0, 0, 0), some (.iaload, 0, 0, 0, 0), some (.invokevirtual 87, 92, 0, 3, 190), none, none, some (.aload_n 2, 0, 0, 0, 0), some (.aload_n 0, 0, 0, 0, 0), some (.iload_n 3, 0, 0, 0, 0), some (.iconst 1, 0, 0, 0, 0), some (.iadd, 0, 0, 0, 0), some (.iaload, 0, 0, 0, 0), some (.aload_n 0, 0, 0, 0, 0), some (.iload_n 3, 0, 0, 0, 0), some (.iconst 2, 0, 0, 0, 0), some (.iadd, 0, 0, 0, 0), some (.iaload, 0, 0, 0, 0), some (.invokevirtual 90, 147, 0, 3, 191), none, none, some (.if_icmp .eq 684, 1611, 0, 0, 0), none, none, some (.iconst 0, 0, 0, 0, 0), some (.ireturn, 0, 0, 0, 0), some (.aload_n 1, 0, 0, 0, 0), some (.aload_n 0, 0, 0, 0, 0), some (.iload_n 3, 0, 0, 0, 0), some (.iconst 1, 0, 0, 0, 0), some (.iadd, 0, 0, 0, 0), some (.iaload, 0, 0, 0, 0), some (.invokevirtual 91, 93, 0, 2, 192), none, none, some (.aload_n 2, 0, 0, 0, 0), some (.aload_n 0, 0, 0, 0, 0), some (.iload_n 3, 0, 0, 0, 0), some (.iconst 1, 0, 0, 0, 0), some (.iadd, 0, 0, 0, 0), some (.iaload, 0, 0, 0, 0), some (.invokevirtual 94, 155, 0, 2, 193), none, none, some (.if_icmp .eq 661, 1611, 0, 0, 0), none, none, some (.iconst 0, 0, 0, 0, 0), some (.ireturn, 0, 0, 0, 0), some (.aload_n 1, 0, 0, 0, 0), some (.invokevirtual 95, 94, 0, 1, 194), none, none, some (.aload_n 2, 0, 0, 0, 0), some (.invokevirtual 99, 156, 0, 1, 195), none, none, some (.if_icmp .eq 648, 1611, 0, 0, 0), none, none, some (.iconst 0, 0, 0, 0, 0), some (.ireturn, 0, 0, 0, 0), some (.aload_n 1, 0, 0, 0, 0), some (.aload_n 0, 0, 0, 0, 0), some (.iload_n 3, 0, 0, 0, 0), some (.iconst 1, 0, 0, 0, 0), some (.iadd, 0, 0, 0, 0), some (.iaload, 0, 0, 0, 0), some (.aload_n 0, 0, 0, 0, 0), some (.iload_n 3, 0, 0, 0, 0), some (.iconst 2, 0, 0, 0, 0), some (.iadd, 0, 0, 0, 0), some (.iaload, 0, 0, 0, 0), some (.ifCond .eq 7, 986, 0, 0, 0), none, none, some (.iconst 1, 0, 0, 0, 0), some (.goto 4, 987, 0, 0, 0), none, none, some (.iconst 0, 0, 0, 0, 0), some (.invokevirtual 100, 95, 0, 3, 196), none, none, some (.aload_n 2, 0, 0, 0, 0), some (.aload_n 0, 0, 0, 0, 0), some (.iload_n 3, 0, 0, 0, 0), some (.iconst 1, 0, 0, 0, 0), some (.iadd, 0, 0, 0, 0), some (.iaload, 0, 0, 0, 0), some (.aload_n 0, 0, 0, 0, 0), some (.iload_n 3, 0, 0, 0, 0), some (.iconst 2, 0, 0, 0, 0), some (.iadd, 0, 0, 0, 0), some (.iaload, 0, 0, 0, 0), some (.ifCond .eq 7, 1008, 0, 0, 0), none, none, some (.iconst 1, 0, 0, 0, 0), some (.goto 4, 1009, 0, 0, 0), none, none, some (.iconst 0, 0, 0, 0, 0), some (.invokevirtual 103, 158, 0, 3, 197), none, none, some (.if_icmp .eq 599, 1611, 0, 0, 0), none, none, some (.iconst 0, 0, 0, 0, 0), some (.ireturn, 0, 0, 0, 0), some (.aload_n 1, 0, 0, 0, 0), some (.aload_n 0, 0, 0, 0, 0), some (.iload_n 3, 0, 0, 0, 0), some (.iconst 1, 0, 0, 0, 0), some (.iadd, 0, 0, 0, 0), some (.iaload, 0, 0, 0, 0), some (.invokevirtual 104, 96, 0, 2, 198), none, none, some (.aload_n 2, 0, 0, 0, 0), some (.aload_n 0, 0, 0, 0, 0), some (.iload_n 3, 0, 0, 0, 0), some (.iconst 1, 0, 0, 0, 0), some (.iadd, 0, 0, 0, 0), some (.iaload, 0, 0, 0, 0), some (.invokevirtual 107, 163, 0, 2, 199), none, none, some (.if_icmp .eq 576, 1611, 0, 0, 0), none, none, some (.iconst 0, 0, 0, 0, 0), some (.ireturn, 0, 0, 0, 0), some (.aload_n 1, 0, 0, 0, 0), some (.aload_n 0, 0, 0, 0, 0), some (.iload_n 3, 0, 0, 0, 0), some (.iconst 1, 0, 0, 0, 0), some (.iadd, 0, 0, 0, 0), some (.iaload, 0, 0, 0, 0), some (.aload_n 0, 0, 0, 0, 0), some (.iload_n 3, 0, 0, 0, 0), some (.iconst 2, 0, 0, 0, 0), some (.iadd, 0, 0, 0, 0)]
def zC_191_7 : List (Option zE) := [some (.iaload, 0, 0, 0, 0), some (.aload_n 0, 0, 0, 0, 0), some (.iload_n 3, 0, 0, 0, 0), some (.iconst 3, 0, 0, 0, 0), some (.iadd, 0, 0, 0, 0), some (.iaload, 0, 0, 0, 0), some (.aload_n 0, 0, 0, 0, 0), some (.iload_n 3, 0, 0, 0, 0), some (.iconst 4, 0, 0, 0, 0), some (.iadd, 0, 0, 0, 0), some (.iaload, 0, 0, 0, 0), some (.aload_n 0, 0, 0, 0, 0), some (.iload_n 3, 0, 0, 0, 0), some (.iconst 5, 0, 0, 0, 0), some (.iadd, 0, 0, 0, 0), some (.iaload, 0, 0, 0, 0), some (.invokevirtual 108, 98, 0, 6, 200), none, none, some (.aload_n 2, 0, 0, 0, 0), some (.aload_n 0, 0, 0, 0, 0), some (.iload_n 3, 0, 0, 0, 0), some (.iconst 1, 0, 0, 0, 0), some (.iadd, 0, 0, 0, 0), some (.iaload, 0, 0, 0, 0), some (.aload_n 0, 0, 0, 0, 0), some (.iload_n 3, 0, 0, 0, 0), some (.iconst 2, 0, 0, 0, 0), some (.iadd, 0, 0, 0, 0), some (.iaload, 0, 0, 0, 0), some (.aload_n 0, 0, 0, 0, 0), some (.iload_n 3, 0, 0, 0, 0), some (.iconst 3, 0, 0, 0, 0), some (.iadd, 0, 0, 0, 0), some (.iaload, 0, 0, 0, 0), some (.aload_n 0, 0, 0, 0, 0), some (.iload_n 3, 0, 0, 0, 0), some (.iconst 4, 0, 0, 0, 0), some (.iadd, 0, 0, 0, 0), some (.iaload, 0, 0, 0, 0), some (.aload_n 0, 0, 0, 0, 0), some (.iload_n 3, 0, 0, 0, 0), some (.iconst 5, 0, 0, 0, 0), some (.iadd, 0, 0, 0, 0), some (.iaload, 0, 0, 0, 0), some (.invokevirtual 111, 164, 0, 6, 201), none, none, some (.if_icmp .eq 513, 1611, 0, 0, 0), none, none, some (.iconst 0, 0, 0, 0, 0), some (.ireturn, 0, 0, 0, 0), some (.aload_n 1, 0, 0, 0, 0), some (.aload_n 0, 0, 0, 0, 0), some (.iload_n 3, 0, 0, 0, 0), some (.iconst 1, 0, 0, 0, 0), some (.iadd, 0, 0, 0, 0), some (.iaload, 0, 0, 0, 0), some (.aload_n 0, 0, 0, 0, 0), some (.iload_n 3, 0, 0, 0, 0), some (.iconst 2, 0, 0, 0, 0), some (.iadd, 0, 0, 0, 0), some (.iaload, 0, 0, 0, 0), some (.invokevirtual 112, 99, 0, 3, 202), none, none, some (.aload_n 2, 0, 0, 0, 0), some (.aload_n 0, 0, 0, 0, 0), some (.iload_n 3, 0, 0, 0, 0), some (.iconst 1, 0, 0, 0, 0), some (.iadd, 0, 0, 0, 0), some (.iaload, 0, 0, 0, 0), some (.aload_n 0, 0, 0, 0, 0), some (.iload_n 3, 0, 0, 0, 0), some (.iconst 2, 0, 0, 0, 0), some (.iadd, 0, 0, 0, 0), some (.iaload, 0, 0, 0, 0), some (.invokevirtual 115, 165, 0, 3, 203), none, none, some (.if_icmp .eq 480, 1611, 0, 0, 0), none, none, some (.iconst 0, 0, 0, 0, 0), some (.ireturn, 0, 0, 0, 0), some (.aload_n 1, 0, 0, 0, 0), some (.aload_n 0, 0, 0, 0, 0), some (.iload_n 3, 0, 0, 0, 0), some (.iconst 1, 0, 0, 0, 0), some (.iadd, 0, 0, 0, 0), some (.iaload, 0, 0, 0, 0), some (.aload_n 0, 0, 0, 0, 0), some (.iload_n 3, 0, 0, 0, 0), some (.iconst 2, 0, 0, 0, 0), some (.iadd, 0, 0, 0, 0), some (.iaload, 0, 0, 0, 0), some (.invokevirtual 116, 100, 0, 3, 204), none, none, some (.aload_n 2, 0, 0, 0, 0), some (.aload_n 0, 0, 0, 0, 0), some (.iload_n 3, 0, 0, 0, 0), some (.iconst 1, 0, 0, 0, 0), some (.iadd, 0, 0, 0, 0), some (.iaload, 0, 0, 0, 0), some (.aload_n 0, 0, 0, 0, 0), some (.iload_n 3, 0, 0, 0, 0), some (.iconst 2, 0, 0, 0, 0), some (.iadd, 0, 0, 0, 0), some (.iaload, 0, 0, 0, 0), some (.invokevirtual 119, 166, 0, 3, 205), none, none, some (.if_icmp .eq 447, 1611, 0, 0, 0), none, none, some (.iconst 0, 0, 0, 0, 0), some (.ireturn, 0, 0, 0, 0), some (.aload_n 1, 0, 0, 0, 0), some (.aload_n 0, 0, 0, 0, 0), some (.iload_n 3, 0, 0, 0, 0), some (.iconst 1, 0, 0, 0, 0), some (.iadd, 0, 0, 0, 0), some (.iaload, 0, 0, 0, 0), some (.aload_n 0, 0, 0, 0, 0), some (.iload_n 3, 0, 0, 0, 0), some (.iconst 2, 0, 0, 0, 0), some (.iadd, 0, 0, 0, 0), some (.iaload, 0, 0, 0, 0), some (.aload_n 0, 0, 0, 0, 0), some (.iload_n 3, 0, 0, 0, 0), some (.iconst 3, 0, 0, 0, 0), some (.iadd, 0, 0, 0, 0), some (.iaload, 0, 0, 0, 0), some (.aload_n 0, 0, 0, 0, 0), some (.iload_n 3, 0, 0, 0, 0), some (.iconst 4, 0, 0, 0, 0), some (.iadd, 0, 0, 0, 0), some (.iaload, 0, 0, 0, 0), some (.aload_n 0, 0, 0, 0, 0), some (.iload_n 3, 0, 0, 0, 0), some (.iconst 5, 0, 0, 0, 0), some (.iadd, 0, 0, 0, 0), some (.iaload, 0, 0, 0, 0), some (.invokevirtual 120, 101, 0, 6, 206), none, none, some (.aload_n 2, 0, 0, 0, 0), some (.aload_n 0, 0, 0, 0, 0)]
def zC_191_8 : List (Option zE) := [some (.iload_n 3, 0, 0, 0, 0), some (.iconst 1, 0, 0, 0, 0), some (.iadd, 0, 0, 0, 0), some (.iaload, 0, 0, 0, 0), some (.aload_n 0, 0, 0, 0, 0), some (.iload_n 3, 0, 0, 0, 0), some (.iconst 2, 0, 0, 0, 0), some (.iadd, 0, 0, 0, 0), some (.iaload, 0, 0, 0, 0), some (.aload_n 0, 0, 0, 0, 0), some (.iload_n 3, 0, 0, 0, 0), some (.iconst 3, 0, 0, 0, 0), some (.iadd, 0, 0, 0, 0), some (.iaload, 0, 0, 0, 0), some (.aload_n 0, 0, 0, 0, 0), some (.iload_n 3, 0, 0, 0, 0), some (.iconst 4, 0, 0, 0, 0), some (.iadd, 0, 0, 0, 0), some (.iaload, 0, 0, 0, 0), some (.aload_n 0, 0, 0, 0, 0), some (.iload_n 3, 0, 0, 0, 0), some (.iconst 5, 0, 0, 0, 0), some (.iadd, 0, 0, 0, 0), some (.iaload, 0, 0, 0, 0), some (.invokevirtual 123, 168, 0, 6, 207), none, none, some (.if_icmp .eq 384, 1611, 0, 0, 0), none, none, some (.iconst 0, 0, 0, 0, 0), some (.ireturn, 0, 0, 0, 0), some (.aload_n 1, 0, 0, 0, 0), some (.aload_n 0, 0, 0, 0, 0), some (.iload_n 3, 0, 0, 0, 0), some (.iconst 1, 0, 0, 0, 0), some (.iadd, 0, 0, 0, 0), some (.iaload, 0, 0, 0, 0), some (.aload_n 0, 0, 0, 0, 0), some (.iload_n 3, 0, 0, 0, 0), some (.iconst 2, 0, 0, 0, 0), some (.iadd, 0, 0, 0, 0), some (.iaload, 0, 0, 0, 0), some (.invokevirtual 124, 102, 0, 3, 208), none, none, some (.aload_n 2, 0, 0, 0, 0), some (.aload_n 0, 0, 0, 0, 0), some (.iload_n 3, 0, 0, 0, 0), some (.iconst 1, 0, 0, 0, 0), some (.iadd, 0, 0, 0, 0), some (.iaload, 0, 0, 0, 0), some (.aload_n 0, 0, 0, 0, 0), some (.iload_n 3, 0, 0, 0, 0), some (.iconst 2, 0, 0, 0, 0), some (.iadd, 0, 0, 0, 0), some (.iaload, 0, 0, 0, 0), some (.invokevirtual 127, 169, 0, 3, 209), none, none, some (.if_icmp .eq 351, 1611, 0, 0, 0), none, none, some (.iconst 0, 0, 0, 0, 0), some (.ireturn, 0, 0, 0, 0), some (.aload_n 1, 0, 0, 0, 0), some (.aload_n 0, 0, 0, 0, 0), some (.iload_n 3, 0, 0, 0, 0), some (.iconst 1, 0, 0, 0, 0), some (.iadd, 0, 0, 0, 0), some (.iaload, 0, 0, 0, 0), some (.invokevirtual 128, 103, 0, 2, 210), none, none, some (.aload_n 2, 0, 0, 0, 0), some (.aload_n 0, 0, 0, 0, 0), some (.iload_n 3, 0, 0, 0, 0), some (.iconst 1, 0, 0, 0, 0), some (.iadd, 0, 0, 0, 0), some (.iaload, 0, 0, 0, 0), some (.invokevirtual 131, 173, 0, 2, 211), none, none, some (.if_icmp .eq 328, 1611, 0, 0, 0), none, none, some (.iconst 0, 0, 0, 0, 0), some (.ireturn, 0, 0, 0, 0), some (.aload_n 1, 0, 0, 0, 0), some (.aload_n 0, 0, 0, 0, 0), some (.iload_n 3, 0, 0, 0, 0), some (.iconst 1, 0, 0, 0, 0), some (.iadd, 0, 0, 0, 0), some (.iaload, 0, 0, 0, 0), some (.aload_n 0, 0, 0, 0, 0), some (.iload_n 3, 0, 0, 0, 0), some (.iconst 2, 0, 0, 0, 0), some (.iadd, 0, 0, 0, 0), some (.iaload, 0, 0, 0, 0), some (.aload_n 0, 0, 0, 0, 0), some (.iload_n 3, 0, 0, 0, 0), some (.iconst 3, 0, 0, 0, 0), some (.iadd, 0, 0, 0, 0), some (.iaload, 0, 0, 0, 0), some (.invokevirtual 132, 104, 0, 4, 212), none, none, some (.aload_n 2, 0, 0, 0, 0), some (.aload_n 0, 0, 0, 0, 0), some (.iload_n 3, 0, 0, 0, 0), some (.iconst 1, 0, 0, 0, 0), some (.iadd, 0, 0, 0, 0), some (.iaload, 0, 0, 0, 0), some (.aload_n 0, 0, 0, 0, 0), some (.iload_n 3, 0, 0, 0, 0), some (.iconst 2, 0, 0, 0, 0), some (.iadd, 0, 0, 0, 0), some (.iaload, 0, 0, 0, 0), some (.aload_n 0, 0, 0, 0, 0), some (.iload_n 3, 0, 0, 0, 0), some (.iconst 3, 0, 0, 0, 0), some (.iadd, 0, 0, 0, 0), some (.iaload, 0, 0, 0, 0), some (.invokevirtual 135, 180, 0, 4, 213), none, none, some (.if_icmp .eq 285, 1611, 0, 0, 0), none, none, some (.iconst 0, 0, 0, 0, 0), some (.ireturn, 0, 0, 0, 0), some (.aload_n 1, 0, 0, 0, 0), some (.aload_n 0, 0, 0, 0, 0), some (.iload_n 3, 0, 0, 0, 0), some (.iconst 1, 0, 0, 0, 0), some (.iadd, 0, 0, 0, 0), some (.iaload, 0, 0, 0, 0), some (.aload_n 0, 0, 0, 0, 0), some (.iload_n 3, 0, 0, 0, 0), some (.iconst 2, 0, 0, 0, 0), some (.iadd, 0, 0, 0, 0), some (.iaload, 0, 0, 0, 0), some (.invokevirtual 136, 105, 0, 3, 214), none, none, some (.aload_n 2, 0, 0, 0, 0), some (.aload_n 0, 0, 0, 0, 0), some (.iload_n 3, 0, 0, 0, 0), some (.iconst 1, 0, 0, 0, 0), some (.iadd, 0, 0, 0, 0)]
def zC_191_9 : List (Option zE) := [some (.iaload, 0, 0, 0, 0), some (.aload_n 0, 0, 0, 0, 0), some (.iload_n 3, 0, 0, 0, 0), some (.iconst 2, 0, 0, 0, 0), some (.iadd, 0, 0, 0, 0), some (.iaload, 0, 0, 0, 0), some (.invokevirtual 139, 174, 0, 3, 215), none, none, some (.if_icmp .eq 252, 1611, 0, 0, 0), none, none, some (.iconst 0, 0, 0, 0, 0), some (.ireturn, 0, 0, 0, 0), some (.aload_n 1, 0, 0, 0, 0), some (.aload_n 0, 0, 0, 0, 0), some (.iload_n 3, 0, 0, 0, 0), some (.iconst 1, 0, 0, 0, 0), some (.iadd, 0, 0, 0, 0), some (.iaload, 0, 0, 0, 0), some (.invokevirtual 140, 106, 0, 2, 216), none, none, some (.aload_n 2, 0, 0, 0, 0), some (.aload_n 0, 0, 0, 0, 0), some (.iload_n 3, 0, 0, 0, 0), some (.iconst 1, 0, 0, 0, 0), some (.iadd, 0, 0, 0, 0), some (.iaload, 0, 0, 0, 0), some (.invokevirtual 143, 178, 0, 2, 217), none, none, some (.if_icmp .eq 229, 1611, 0, 0, 0), none, none, some (.iconst 0, 0, 0, 0, 0), some (.ireturn, 0, 0, 0, 0), some (.aload_n 1, 0, 0, 0, 0), some (.aload_n 0, 0, 0, 0, 0), some (.iload_n 3, 0, 0, 0, 0), some (.iconst 1, 0, 0, 0, 0), some (.iadd, 0, 0, 0, 0), some (.iaload, 0, 0, 0, 0), some (.aload_n 0, 0, 0, 0, 0), some (.iload_n 3, 0, 0, 0, 0), some (.iconst 2, 0, 0, 0, 0), some (.iadd, 0, 0, 0, 0), some (.iaload, 0, 0, 0, 0), some (.invokevirtual 144, 107, 0, 3, 218), none, none, some (.aload_n 2, 0, 0, 0, 0), some (.aload_n 0, 0, 0, 0, 0), some (.iload_n 3, 0, 0, 0, 0), some (.iconst 1, 0, 0, 0, 0), some (.iadd, 0, 0, 0, 0), some (.iaload, 0, 0, 0, 0), some (.aload_n 0, 0, 0, 0, 0), some (.iload_n 3, 0, 0, 0, 0), some (.iconst 2, 0, 0, 0, 0), some (.iadd, 0, 0, 0, 0), some (.iaload, 0, 0, 0, 0), some (.invokevirtual 147, 181, 0, 3, 219), none, none, some (.if_icmp .eq 196, 1611, 0, 0, 0), none, none, some (.iconst 0, 0, 0, 0, 0), some (.ireturn, 0, 0, 0, 0), some (.aload_n 1, 0, 0, 0, 0), some (.aload_n 0, 0, 0, 0, 0), some (.iload_n 3, 0, 0, 0, 0), some (.iconst 1, 0, 0, 0, 0), some (.iadd, 0, 0, 0, 0), some (.iaload, 0, 0, 0, 0), some (.aload_n 0, 0, 0, 0, 0), some (.iload_n 3, 0, 0, 0, 0), some (.iconst 2, 0, 0, 0, 0), some (.iadd, 0, 0, 0, 0), some (.iaload, 0, 0, 0, 0), some (.invokevirtual 148, 97, 0, 3, 220), none, none, some (.aload_n 2, 0, 0, 0, 0), some (.aload_n 0, 0, 0, 0, 0), some (.iload_n 3, 0, 0, 0, 0), some (.iconst 1, 0, 0, 0, 0), some (.iadd, 0, 0, 0, 0), some (.iaload, 0, 0, 0, 0), some (.aload_n 0, 0, 0, 0, 0), some (.iload_n 3, 0, 0, 0, 0), some (.iconst 2, 0, 0, 0, 0), some (.iadd, 0, 0, 0, 0), some (.iaload, 0, 0, 0, 0), some (.invokevirtual 151, 182, 0, 3, 221), none, none, some (.if_icmp .eq 163, 1611, 0, 0, 0), none, none, some (.iconst 0, 0, 0, 0, 0), some (.ireturn, 0, 0, 0, 0), some (.aload_n 1, 0, 0, 0, 0), some (.aload_n 0, 0, 0, 0, 0), some (.iload_n 3, 0, 0, 0, 0), some (.iconst 1, 0, 0, 0, 0), some (.iadd, 0, 0, 0, 0), some (.iaload, 0, 0, 0, 0), some (.aload_n 0, 0, 0, 0, 0), some (.iload_n 3, 0, 0, 0, 0), some (.iconst 2, 0, 0, 0, 0), some (.iadd, 0, 0, 0, 0), some (.iaload, 0, 0, 0, 0), some (.invokevirtual 152, 80, 0, 3, 222), none, none, some (.aload_n 2, 0, 0, 0, 0), some (.aload_n 0, 0, 0, 0, 0), some (.iload_n 3, 0, 0, 0, 0), some (.iconst 1, 0, 0, 0, 0), some (.iadd, 0, 0, 0, 0), some (.iaload, 0, 0, 0, 0), some (.aload_n 0, 0, 0, 0, 0), some (.iload_n 3, 0, 0, 0, 0), some (.iconst 2, 0, 0, 0, 0), some (.iadd, 0, 0, 0, 0), some (.iaload, 0, 0, 0, 0), some (.invokevirtual 155, 183, 0, 3, 223), none, none, some (.if_icmp .eq 130, 1611, 0, 0, 0), none, none, some (.iconst 0, 0, 0, 0, 0), some (.ireturn, 0, 0, 0, 0), some (.aload_n 1, 0, 0, 0, 0), some (.invokevirtual 156, 108, 0, 1, 224), none, none, some (.aload_n 2, 0, 0, 0, 0), some (.invokevirtual 159, 184, 0, 1, 225), none, none, some (.if_icmp .eq 117, 1611, 0, 0, 0), none, none, some (.iconst 0, 0, 0, 0, 0), some (.ireturn, 0, 0, 0, 0), some (.aload_n 1, 0, 0, 0, 0)]
def zC_191_10 : List (Option zE) := [some (.invokevirtual 160, 109, 0, 1, 226), none, none, some (.aload_n 2, 0, 0, 0, 0), some (.invokevirtual 163, 185, 0, 1, 227), none, none, some (.if_icmp .eq 104, 1611, 0, 0, 0), none, none, some (.iconst 0, 0, 0, 0, 0), some (.ireturn, 0, 0, 0, 0), some (.aload_n 1, 0, 0, 0, 0), some (.aload_n 0, 0, 0, 0, 0), some (.iload_n 3, 0, 0, 0, 0), some (.iconst 1, 0, 0, 0, 0), some (.iadd, 0, 0, 0, 0), some (.iaload, 0, 0, 0, 0), some (.aload_n 0, 0, 0, 0, 0), some (.iload_n 3, 0, 0, 0, 0), some (.iconst 2, 0, 0, 0, 0), some (.iadd, 0, 0, 0, 0), some (.iaload, 0, 0, 0, 0), some (.invokevirtual 164, 110, 0, 3, 228), none, none, some (.aload_n 2, 0, 0, 0, 0), some (.aload_n 0, 0, 0, 0, 0), some (.iload_n 3, 0, 0, 0, 0), some (.iconst 1, 0, 0, 0, 0), some (.iadd, 0, 0, 0, 0), some (.iaload, 0, 0, 0, 0), some (.aload_n 0, 0, 0, 0, 0), some (.iload_n 3, 0, 0, 0, 0), some (.iconst 2, 0, 0, 0, 0), some (.iadd, 0, 0, 0, 0), some (.iaload, 0, 0, 0, 0), some (.invokevirtual 167, 186, 0, 3, 229), none, none, some (.if_icmp .eq 71, 1611, 0, 0, 0), none, none, some (.iconst 0, 0, 0, 0, 0), some (.ireturn, 0, 0, 0, 0), some (.aload_n 1, 0, 0, 0, 0), some (.aload_n 0, 0, 0, 0, 0), some (.iload_n 3, 0, 0, 0, 0), some (.iconst 1, 0, 0, 0, 0), some (.iadd, 0, 0, 0, 0), some (.iaload, 0, 0, 0, 0), some (.aload_n 0, 0, 0, 0, 0), some (.iload_n 3, 0, 0, 0, 0), some (.iconst 2, 0, 0, 0, 0), some (.iadd, 0, 0, 0, 0), some (.iaload, 0, 0, 0, 0), some (.aload_n 0, 0, 0, 0, 0), some (.iload_n 3, 0, 0, 0, 0), some (.iconst 3, 0, 0, 0, 0), some (.iadd, 0, 0, 0, 0), some (.iaload, 0, 0, 0, 0), some (.invokevirtual 168, 111, 0, 4, 230), none, none, some (.aload_n 2, 0, 0, 0, 0), some (.aload_n 0, 0, 0, 0, 0), some (.iload_n 3, 0, 0, 0, 0), some (.iconst 1, 0, 0, 0, 0), some (.iadd, 0, 0, 0, 0), some (.iaload, 0, 0, 0, 0), some (.aload_n 0, 0, 0, 0, 0), some (.iload_n 3, 0, 0, 0, 0), some (.iconst 2, 0, 0, 0, 0), some (.iadd, 0, 0, 0, 0), some (.iaload, 0, 0, 0, 0), some (.aload_n 0, 0, 0, 0, 0), some (.iload_n 3, 0, 0, 0, 0), some (.iconst 3, 0, 0, 0, 0), some (.iadd, 0, 0, 0, 0), some (.iaload, 0, 0, 0, 0), some (.invokevirtual 171, 187, 0, 4, 231), none, none, some (.if_icmp .eq 28, 1611, 0, 0, 0), none, none, some (.iconst 0, 0, 0, 0, 0), some (.ireturn, 0, 0, 0, 0), some (.aload_n 1, 0, 0, 0, 0), some (.aload_n 0, 0, 0, 0, 0), some (.iload_n 3, 0, 0, 0, 0), some (.iconst 1, 0, 0, 0, 0), some (.iadd, 0, 0, 0, 0), some (.iaload, 0, 0, 0, 0), some (.invokevirtual 172, 112, 0, 2, 232), none, none, some (.aload_n 2, 0, 0, 0, 0), some (.aload_n 0, 0, 0, 0, 0), some (.iload_n 3, 0, 0, 0, 0), some (.iconst 1, 0, 0, 0, 0), some (.iadd, 0, 0, 0, 0), some (.iaload, 0, 0, 0, 0), some (.invokevirtual 175, 188, 0, 2, 233), none, none, some (.if_icmp .eq 5, 1611, 0, 0, 0), none, none, some (.iconst 0, 0, 0, 0, 0), some (.ireturn, 0, 0, 0, 0), some (.iinc 3 6, 0, 0, 0, 0), none, none, some (.goto (-1596), 18, 0, 0, 0), none, none, some (.iconst 1, 0, 0, 0, 0), some (.ireturn, 0, 0, 0, 0)]
def zC_191 : List (Option zE) := zC_191_0 ++ (zC_191_1 ++ (zC_191_2 ++ (zC_191_3 ++ (zC_191_4 ++ (zC_191_5 ++ (zC_191_6 ++ (zC_191_7 ++ (zC_191_8 ++ (zC_191_9 ++ (zC_191_10))))))))))
def zCs : List (List (Option zE)) := [zC_0, zC_1, zC_2, zC_3, zC_4, zC_5, zC_6, zC_7, zC_8, zC_9, zC_10, zC_11, zC_12, zC_13, zC_14, zC_15, zC_16, zC_17, zC_18, zC_19, zC_20, zC_21, zC_22, zC_23, zC_24, zC_25, zC_26, zC_27, zC_28, zC_29, zC_30, zC_31, zC_32, zC_33, zC_34, zC_35, zC_36, zC_37, zC_38, zC_39, zC_40, zC_41, zC_42, zC_43, zC_44, zC_45, zC_46, zC_47, zC_48, zC_49, zC_50, zC_51, zC_52, zC_53, zC_54, zC_55, zC_56, zC_57, zC_58, zC_59, zC_60, zC_61, zC_62, zC_63, zC_64, zC_65, zC_66, zC_67, zC_68, zC_69, zC_70, zC_71, zC_72, zC_73, zC_74, zC_75, zC_76, zC_77, zC_78, zC_79, zC_80, zC_81, zC_82, zC_83, zC_84, zC_85, zC_86, zC_87, zC_88, zC_89, zC_90, zC_91, zC_92, zC_93, zC_94, zC_95, zC_96, zC_97, zC_98, zC_99, zC_100, zC_101, zC_102, zC_103, zC_104, zC_105, zC_106, zC_107, zC_108, zC_109, zC_110, zC_111, zC_112, zC_113, zC_114, zC_115, zC_116, zC_117, zC_118, zC_119, zC_120, zC_121, zC_122, zC_123, zC_124, zC_125, zC_126, zC_127, zC_128, zC_129, zC_130, zC_131, zC_132, zC_133, zC_134, zC_135, zC_136, zC_137, zC_138, zC_139, zC_140, zC_141, zC_142, zC_143, zC_144, zC_145, zC_146, zC_147, zC_148, zC_149, zC_150, zC_151, zC_152, zC_153, zC_154, zC_155, zC_156, zC_157, zC_158, zC_159, zC_160, zC_161, zC_162, zC_163, zC_164, zC_165, zC_166, zC_167, zC_168, zC_169, zC_170, zC_171, zC_172, zC_173, zC_174, zC_175, zC_176, zC_177, zC_178, zC_179, zC_180, zC_181, zC_182, zC_183, zC_184, zC_185, zC_186, zC_187, zC_188, zC_189, zC_190, zC_191]
end
section
/-- the length of an instruction (switches apart) -/
def zLen : Instr → Nat
  | .aload _ => 2 | .astore _ => 2 | .bipush _ => 2 | .iload _ => 2 | .istore _ => 2 | .ldc _ => 2 | .lload _ => 2 | .lstore _ => 2 | .newarray _ => 2
  | .anewarray _ => 3 | .getfield _ => 3 | .goto _ => 3 | .if_icmp _ _ => 3 | .ifCond _ _ => 3 | .iinc _ _ => 3 | .invokespecial _ => 3 | .invokestatic _ => 3 | .invokevirtual _ => 3
  | .ldc_w _ => 3 | .ldc2_w _ => 3 | .new _ => 3 | .putfield _ => 3 | .sipush _ => 3
  | _ => 1
def zMrow (m : Nat) : Nat × String × String × Nat × Option FieldType × Nat × Nat := zMT.getD m (0, "", "", 0, none, 0, 0)
abbrev zMo (m : Nat) : Nat := (zMrow m).1
def zBy : Jvm.Cond → ByteArray
  | .code _ b _ _ => b
  | _ => ByteArray.empty
def zMb (m : Nat) : ByteArray := if m = zLawI then code else zBy (lw_tbl.getD (zMrow m).2.2.2.2.2.1 .tt)
abbrev zMl (m : Nat) : Nat := (zMrow m).2.2.2.1
abbrev zMr (m : Nat) : Option FieldType := (zMrow m).2.2.2.2.1
abbrev zMn (m : Nat) : String := zNm (zMo m)
abbrev zMy (m : Nat) : MethodName := ⟨zNm (zMo m), (zMrow m).2.1, (zMrow m).2.2.1⟩
/-- the code of a method at a place -/
def zc (m pc : Nat) : Option zE := ((zCs[m]?).bind (fun l => l[pc]?)).join
/-- what an entry of the lists must be: what is decoded there, and a link that the tables have -/
def zLkc (o i : Nat) (e : zE) : Bool := match zCl[e.2.2.2.2]? with
  | some r => r.1 == o && (r.2.1 == i && (r.2.2.1 == e.2.1 && (r.2.2.2.1 == e.2.2.1 && r.2.2.2.2.1 == e.2.2.2.1)))
  | none => false
def zLink (o : Nat) (e : zE) : Bool := match e.1 with
  | .getfield i => decide (zFl[e.2.2.2.2]? = some (o, i, e.2.1, e.2.2.1))
  | .putfield i => decide (zFl[e.2.2.2.2]? = some (o, i, e.2.1, e.2.2.1))
  | .invokevirtual i => zLkc o i e && e.2.2.1 == 0
  | .invokestatic i => zLkc o i e && (e.2.2.1 == 1 || (e.2.2.1 == 3 || Nat.ble 6 e.2.2.1))
  | .invokespecial i => zLkc o i e && (e.2.2.1 == 2 || (e.2.2.1 == 4 || e.2.2.1 == 5))
  | .new i => decide (zNl[e.2.2.2.2]? = some (o, i, e.2.1))
  | .anewarray i => decide (zAl[e.2.2.2.2]? = some (o, i, e.2.1))
  | .ldc i => decide (zKl[e.2.2.2.2]? = some (o, i, e.2.2.2.1))
  | .ldc_w i => decide (zKl[e.2.2.2.2]? = some (o, i, e.2.2.2.1))
  | .ldc2_w i => decide (zLl[e.2.2.2.2]? = some (o, i, e.2.2.2.1))
  | .newarray t => match t with | .int => e.2.1 == 12 | .long => e.2.1 == 13 | .boolean => e.2.1 == 14 | _ => false
  | _ => true
def xsw (i : Instr) : Bool := match i with
  | .tableswitch _ _ _ _ => true
  | .lookupswitch _ _ => true
  | _ => false
def xbrl (i : Instr) (pc tgt ln : Nat) : Bool := match i with
  | .goto off => decide ((pc : Int) + off = tgt) && decide (ln = 3)
  | .if_icmp _ off => decide ((pc : Int) + off = tgt) && decide (ln = 3)
  | .ifCond _ off => decide ((pc : Int) + off = tgt) && decide (ln = 3)
  | .lookupswitch _ ps => (ps.toList.zip (ps.toList.drop 1)).all (fun (a, next) => decide (a.1 < next.1))
  | _ => true
def zDec (b : ByteArray) (pc : Nat) (e : zE) : Bool := match decode b pc with
  | .ok (i, n) => decide (i = e.1) && ((xsw e.1 || n == zLen e.1) && xbrl e.1 pc e.2.1 n)
  | _ => false
theorem zDec_use {b : ByteArray} {pc : Nat} {e : zE} (h : zDec b pc e = true) : ∃ n, decode b pc = .ok (e.1, n) ∧ (xsw e.1 = false → n = zLen e.1) ∧ xbrl e.1 pc e.2.1 n = true := by
  unfold zDec at h
  split at h
  · rename_i i n hd
    simp only [Bool.and_eq_true, Bool.or_eq_true, decide_eq_true_eq, beq_iff_eq] at h
    obtain ⟨rfl, h2, h3⟩ := h
    exact ⟨n, hd, fun q => h2.resolve_left (by rw [q]; decide), h3⟩
  · cases h
def zChk (o : Nat) (b : ByteArray) : Nat → List (Option zE) → Bool
  | _, [] => true
  | pc, none :: l => zChk o b (pc + 1) l
  | pc, some e :: l => zDec b pc e && (zLink o e && zChk o b (pc + 1) l)
theorem zChk_at {o : Nat} {b : ByteArray} : ∀ {l : List (Option zE)} {p0 : Nat}, zChk o b p0 l = true → ∀ {k : Nat} {e : zE}, l[k]? = some (some e) → zDec b (p0 + k) e = true ∧ zLink o e = true := by
  intro l
  induction l with
  | nil => intro p0 _ k e h; simp at h
  | cons x l ih =>
    intro p0 h k e hk
    cases x with
    | none =>
      simp only [zChk] at h
      cases k with
      | zero => simp at hk
      | succ k =>
        have := ih h (k := k) (e := e) (by simpa using hk)
        rwa [show p0 + (k + 1) = p0 + 1 + k by omega]
    | some y =>
      simp only [zChk, Bool.and_eq_true] at h
      cases k with
      | zero =>
        simp at hk
        subst hk
        exact ⟨h.1, h.2.1⟩
      | succ k =>
        have := ih h.2.2 (k := k) (e := e) (by simpa using hk)
        rwa [show p0 + (k + 1) = p0 + 1 + k by omega]
def zCk (m : Nat) : Bool := zChk (zMo m) (zMb m) 0 (zCs.getD m [])
theorem zall_step {P : Nat → Prop} {n : Nat} (h : ∀ m, m < n → P m) (hn : P n) : ∀ m, m < n + 1 → P m := by
  intro m hm
  rcases Nat.lt_or_eq_of_le (Nat.le_of_lt_succ hm) with h1 | h1
  · exact h m h1
  · rw [h1]; exact hn
theorem zChk_app {o : Nat} {b : ByteArray} {l1 l2 : List (Option zE)} {p q : Nat} (hq : p + l1.length = q) (h1 : zChk o b p l1 = true) (h2 : zChk o b q l2 = true) : zChk o b p (l1 ++ l2) = true := by
  induction l1 generalizing p with
  | nil => simp at hq; subst hq; exact h2
  | cons x l ih =>
    cases x with
    | none =>
      simp only [zChk, List.cons_append] at h1 ⊢
      exact ih (by simp at hq; omega) h1
    | some y =>
      simp only [zChk, List.cons_append, Bool.and_eq_true] at h1 ⊢
      exact ⟨h1.1, h1.2.1, ih (by simp at hq; omega) h1.2.2⟩
theorem zCk_of {m : Nat} {l : List (Option zE)} (h : zCs[m]? = some l) (hc : zChk (zMo m) (zMb m) 0 l = true) : zCk m = true := by
  unfold zCk
  rw [List.getD_eq_getElem?_getD, h]
  exact hc
end
section
/-! A small machine of our own: the same instructions over a list of cells. What it comes to, the machine comes to ('z_sound'). -/
/-- a cell: its kind (0 .. 11 a class, 12 ints, 13 longs, 14 booleans, 15 .. 18 references), its length, what it holds -/
abbrev XC : Type := Nat × Nat × (Nat → Value)
abbrev XH : Type := List XC
abbrev XL : Type := List (Nat × Value)
abbrev XR : Type := Option Value × XH
abbrev XS : Type := Nat × XL × List Value × XH
def xI : Value → Int32
  | .int x => x
  | _ => 0
def xJ : Value → Int64
  | .long x => x
  | _ => 0
def xR : Value → Option Nat
  | .ref a => some a
  | _ => none
def xget : XL → Nat → Option Value
  | [], _ => none
  | (j, v) :: t, i => bif j == i then some v else xget t i
def xkeep (i c : Nat) (q : Nat × Value) : Bool := !(q.1 + 1 == i && q.2.category == 2) && !(c == 2 && q.1 == i + 1)
def xins (i : Nat) (v : Value) : XL → XL
  | [] => [(i, v)]
  | (j, w) :: t => bif j == i then (i, v) :: t.filter (fun q => !(q.1 == i)) else (j, w) :: xins i v t
def xput (i : Nat) (v : Value) (L : XL) : XL := xins i v (L.filter (xkeep i v.category))
/-- instructions that touch the stack alone -/
def xop (i : Instr) (st : List Value) : Option (List Value) := match i with
  | .iconst n => some (.int (Int32.ofInt n) :: st)
  | .bipush n => some (.int (Int8.ofInt n).toInt32 :: st)
  | .sipush n => some (.int (Int16.ofInt n).toInt32 :: st)
  | .lconst n => some (.long (Int64.ofNat (n : Nat)) :: st)
  | .iadd => match st with | .int y :: .int x :: r => some (.int (x + y) :: r) | _ => none
  | .isub => match st with | .int y :: .int x :: r => some (.int (x - y) :: r) | _ => none
  | .imul => match st with | .int y :: .int x :: r => some (.int (x * y) :: r) | _ => none
  | .iand => match st with | .int y :: .int x :: r => some (.int (x &&& y) :: r) | _ => none
  | .ior => match st with | .int y :: .int x :: r => some (.int (x ||| y) :: r) | _ => none
  | .ishl => match st with | .int y :: .int x :: r => some (.int (x <<< (y &&& 31)) :: r) | _ => none
  | .ishr => match st with | .int y :: .int x :: r => some (.int (x >>> (y &&& 31)) :: r) | _ => none
  | .idiv => match st with | .int y :: .int x :: r => if y = 0 then none else some (.int (x / y) :: r) | _ => none
  | .irem => match st with | .int y :: .int x :: r => if y = 0 then none else some (.int (x - x / y * y) :: r) | _ => none
  | .ineg => match st with | .int x :: r => some (.int (-x) :: r) | _ => none
  | .i2l => match st with | .int x :: r => some (.long x.toInt64 :: r) | _ => none
  | .l2i => match st with | .long x :: r => some (.int x.toInt32 :: r) | _ => none
  | .i2b => match st with | .int x :: r => some (.int x.toInt8.toInt32 :: r) | _ => none
  | .i2s => match st with | .int x :: r => some (.int x.toInt16.toInt32 :: r) | _ => none
  | .ladd => match st with | .long y :: .long x :: r => some (.long (x + y) :: r) | _ => none
  | .land => match st with | .long y :: .long x :: r => some (.long (x &&& y) :: r) | _ => none
  | .lor => match st with | .long y :: .long x :: r => some (.long (x ||| y) :: r) | _ => none
  | .lxor => match st with | .long y :: .long x :: r => some (.long (x ^^^ y) :: r) | _ => none
  | .lcmp => match st with | .long y :: .long x :: r => some (.int (lg_cmp x y) :: r) | _ => none
  | .lshl => match st with | .int y :: .long x :: r => some (.long (x <<< (y.toInt64 &&& 63)) :: r) | _ => none
  | .lushr => match st with | .int y :: .long x :: r => some (.long (x.toUInt64 >>> (y.toInt64.toUInt64 &&& Int64.toUInt64 63)).toInt64 :: r) | _ => none
  | .dup => match st with | a :: r => if a.category = 1 then some (a :: a :: r) else none | _ => none
  | .dup_x1 => match st with | a :: b :: r => if a.category = 1 ∧ b.category = 1 then some (a :: b :: a :: r) else none | _ => none
  | .dup_x2 => match st with | a :: b :: d :: r => if a.category = 1 ∧ b.category = 1 ∧ d.category = 1 then some (a :: b :: d :: a :: r) else none | _ => none
  | .dup2 => match st with | a :: b :: r => if a.category = 1 ∧ b.category = 1 then some (a :: b :: a :: b :: r) else none | _ => none
  | _ => none
def oInt : Value → Option Value
  | .int x => some (.int x)
  | _ => none
def oLong : Value → Option Value
  | .long x => some (.long x)
  | _ => none
def oRef : Value → Option Value
  | .ref x => some (.ref x)
  | _ => none
/-- instructions that read a local -/
def xld (i : Instr) (L : XL) : Option Value := match i with
  | .iload k => (xget L k).bind oInt
  | .iload_n k => (xget L (k : Nat)).bind oInt
  | .lload k => (xget L k).bind oLong
  | .lload_n k => (xget L (k : Nat)).bind oLong
  | .aload k => (xget L k).bind oRef
  | .aload_n k => (xget L (k : Nat)).bind oRef
  | _ => none
def xstI (nL k : Nat) (L : XL) : List Value → Option (XL × List Value)
  | .int x :: r => if k < nL then some (xput k (.int x) L, r) else none
  | _ => none
def xstJ (nL k : Nat) (L : XL) : List Value → Option (XL × List Value)
  | .long x :: r => if k + 1 < nL then some (xput k (.long x) L, r) else none
  | _ => none
def xstR (nL k : Nat) (L : XL) : List Value → Option (XL × List Value)
  | .ref x :: r => if k < nL then some (xput k (.ref x) L, r) else none
  | _ => none
/-- instructions that write a local -/
def xst (nL : Nat) (i : Instr) (L : XL) (st : List Value) : Option (XL × List Value) := match i with
  | .istore k => xstI nL k L st
  | .istore_n k => xstI nL (k : Nat) L st
  | .lstore k => xstJ nL k L st
  | .lstore_n k => xstJ nL (k : Nat) L st
  | .astore k => xstR nL k L st
  | .astore_n k => xstR nL (k : Nat) L st
  | .iinc k n => if k < nL then (match xget L k with | some (.int x) => some (xput k (.int (x + Int32.ofInt n)) L, st) | _ => none) else none
  | _ => none
/-- branches: where to, and the stack behind -/
def xbr (i : Instr) (tgt pc : Nat) (st : List Value) : Option (Nat × List Value) := match i with
  | .goto _ => some (tgt, st)
  | .if_icmp .eq _ => match st with | .int y :: .int x :: r => some (if x = y then tgt else pc + 3, r) | _ => none
  | .if_icmp .ne _ => match st with | .int y :: .int x :: r => some (if ¬ x = y then tgt else pc + 3, r) | _ => none
  | .if_icmp .lt _ => match st with | .int y :: .int x :: r => some (if x < y then tgt else pc + 3, r) | _ => none
  | .if_icmp .ge _ => match st with | .int y :: .int x :: r => some (if y ≤ x then tgt else pc + 3, r) | _ => none
  | .if_icmp .gt _ => match st with | .int y :: .int x :: r => some (if y < x then tgt else pc + 3, r) | _ => none
  | .if_icmp .le _ => match st with | .int y :: .int x :: r => some (if x ≤ y then tgt else pc + 3, r) | _ => none
  | .ifCond .eq _ => match st with | .int x :: r => some (if x = 0 then tgt else pc + 3, r) | _ => none
  | .ifCond .ne _ => match st with | .int x :: r => some (if ¬ x = 0 then tgt else pc + 3, r) | _ => none
  | .ifCond .lt _ => match st with | .int x :: r => some (if x < 0 then tgt else pc + 3, r) | _ => none
  | .ifCond .ge _ => match st with | .int x :: r => some (if 0 ≤ x then tgt else pc + 3, r) | _ => none
  | .ifCond .gt _ => match st with | .int x :: r => some (if 0 < x then tgt else pc + 3, r) | _ => none
  | .ifCond .le _ => match st with | .int x :: r => some (if x ≤ 0 then tgt else pc + 3, r) | _ => none
  | .tableswitch dflt lo hi offs => match st with
    | .int x :: r => if x.toInt < lo ∨ hi < x.toInt then (if 0 ≤ (pc : Int) + dflt then some (((pc : Int) + dflt).toNat, r) else none) else (match offs[(x.toInt - lo).toNat]? with | some off => (if 0 ≤ (pc : Int) + off then some (((pc : Int) + off).toNat, r) else none) | none => none)
    | _ => none
  | .lookupswitch dflt ps => match st with
    | .int x :: r => if 0 ≤ (pc : Int) + Op.lookupswitch.offset ps.toList dflt x.toInt then some (((pc : Int) + Op.lookupswitch.offset ps.toList dflt x.toInt).toNat, r) else none
    | _ => none
  | _ => none
/-- the class of what an array of references holds -/
def zAe (k : Nat) : Nat := if k = 15 then 0 else if k = 16 then 3 else if k = 17 then 5 else 8
/-- fields that may be written: 0 an int, 1 a boolean, 2 a reference, 3 a reference that is final -/
def zFt (ci k : Nat) : Nat := ((zFts[ci]?).bind (fun l => l[k]?)).getD 9
def xfit (t : Nat) (v : Value) : Bool := match v with
  | .int x => t == 0 || (t == 1 && (x == 0 || x == 1))
  | .ref n => (t == 2 || t == 3) && !(n == 0)
  | _ => false
def zDef (t : Nat) : Value := bif t == 0 || t == 1 then .int 0 else .null
/-- a new object of a class -/
def zNw (ci : Nat) : Option XC := match zFts[ci]? with
  | some l => some (ci, l.length, fun j => match l[j]? with | some t => zDef t | none => .null)
  | none => none
/-- instructions that touch the heap; xs: the script, its length and 1 (0: there is none) -/
def xhp (xs : Nat × (Nat → Int32)) (ini : Bool) (o : Nat) (e : zE) (st : List Value) (h : XH) : Option (List Value × XH) := match e.1 with
  | .getfield _ => match st with
    | .ref (n + 1) :: r => match h[n]? with
      | some c => if c.1 = e.2.1 ∧ e.2.2.1 < c.2.1 then some (c.2.2 e.2.2.1 :: r, h) else none
      | none => none
    | _ => none
  | .putfield _ => match st with
    | v :: .ref (n + 1) :: r => match h[n]? with
      | some c => if c.1 = e.2.1 ∧ e.2.2.1 < c.2.1 ∧ xfit (zFt e.2.1 e.2.2.1) v = true ∧ (zFt e.2.1 e.2.2.1 = 3 → ini = true ∧ o = e.2.1) then some (r, h.set n (c.1, c.2.1, updV c.2.2 e.2.2.1 v)) else none
      | none => none
    | _ => none
  | .iaload => match st with
    | .int i :: .ref 0 :: r => if ¬ (i < 0 ∨ xs.1 - 1 ≤ i.toNatClampNeg) then some (.int (xs.2 i.toNatClampNeg) :: r, h) else none
    | .int i :: .ref (n + 1) :: r => match h[n]? with
      | some c => if c.1 = 12 ∧ ¬ (i < 0 ∨ c.2.1 ≤ i.toNatClampNeg) then some (.int (xI (c.2.2 i.toNatClampNeg)) :: r, h) else none
      | none => none
    | _ => none
  | .baload => match st with
    | .int i :: .ref (n + 1) :: r => match h[n]? with
      | some c => if c.1 = 14 ∧ ¬ (i < 0 ∨ c.2.1 ≤ i.toNatClampNeg) then some (.int (xI (c.2.2 i.toNatClampNeg)) :: r, h) else none
      | none => none
    | _ => none
  | .laload => match st with
    | .int i :: .ref (n + 1) :: r => match h[n]? with
      | some c => if c.1 = 13 ∧ ¬ (i < 0 ∨ c.2.1 ≤ i.toNatClampNeg) then some (.long (xJ (c.2.2 i.toNatClampNeg)) :: r, h) else none
      | none => none
    | _ => none
  | .aaload => match st with
    | .int i :: .ref (n + 1) :: r => match h[n]? with
      | some c => if 15 ≤ c.1 ∧ c.1 ≤ 18 ∧ ¬ (i < 0 ∨ c.2.1 ≤ i.toNatClampNeg) then some (va_rf (xR (c.2.2 i.toNatClampNeg)) :: r, h) else none
      | none => none
    | _ => none
  | .iastore => match st with
    | .int x :: .int i :: .ref (n + 1) :: r => match h[n]? with
      | some c => if c.1 = 12 ∧ ¬ (i < 0 ∨ c.2.1 ≤ i.toNatClampNeg) then some (r, h.set n (c.1, c.2.1, updV c.2.2 i.toNatClampNeg (.int x))) else none
      | none => none
    | _ => none
  | .bastore => match st with
    | .int x :: .int i :: .ref (n + 1) :: r => match h[n]? with
      | some c => if c.1 = 14 ∧ ¬ (i < 0 ∨ c.2.1 ≤ i.toNatClampNeg) then some (r, h.set n (c.1, c.2.1, updV c.2.2 i.toNatClampNeg (.int (vp_nar .boolean x)))) else none
      | none => none
    | _ => none
  | .lastore => match st with
    | .long x :: .int i :: .ref (n + 1) :: r => match h[n]? with
      | some c => if c.1 = 13 ∧ ¬ (i < 0 ∨ c.2.1 ≤ i.toNatClampNeg) then some (r, h.set n (c.1, c.2.1, updV c.2.2 i.toNatClampNeg (.long x))) else none
      | none => none
    | _ => none
  | .aastore => match st with
    | .ref (v + 1) :: .int i :: .ref (n + 1) :: r => match h[n]? with
      | some c => match h[v]? with
        | some d => if 15 ≤ c.1 ∧ c.1 ≤ 18 ∧ d.1 = zAe c.1 ∧ ¬ (i < 0 ∨ c.2.1 ≤ i.toNatClampNeg) then some (r, h.set n (c.1, c.2.1, updV c.2.2 i.toNatClampNeg (.ref (v + 1)))) else none
        | none => none
      | none => none
    | _ => none
  | .arraylength => match st with
    | .ref 0 :: r => if xs.1 = 0 then none else some (.int (Int32.ofNat (xs.1 - 1)) :: r, h)
    | .ref (n + 1) :: r => match h[n]? with
      | some c => if 12 ≤ c.1 ∧ c.1 ≤ 18 then some (.int (Int32.ofNat c.2.1) :: r, h) else none
      | none => none
    | _ => none
  | .new _ => match zNw e.2.1 with
    | some c => some (.ref (h.length + 1) :: st, h ++ [c])
    | none => none
  | .newarray _ => match st with
    | .int n :: r => if ¬ n < 0 ∧ n.toNatClampNeg ≤ 1000000 then some (.ref (h.length + 1) :: r, h ++ [(e.2.1, n.toNatClampNeg, (fun _ => if e.2.1 = 13 then Value.long 0 else Value.int 0 : Nat → Value))]) else none
    | _ => none
  | .anewarray _ => match st with
    | .int n :: r => if ¬ n < 0 ∧ n.toNatClampNeg ≤ 1000000 then some (.ref (h.length + 1) :: r, h ++ [(e.2.1, n.toNatClampNeg, (fun _ => Value.null : Nat → Value))]) else none
    | _ => none
  | .ldc _ => some (.int (Int32.ofInt e.2.2.2.1) :: st, h)
  | .ldc_w _ => some (.int (Int32.ofInt e.2.2.2.1) :: st, h)
  | .ldc2_w _ => some (.long (Int64.ofInt e.2.2.2.1) :: st, h)
  | _ => none
def xcpy (h : XH) (q0 q1 : Nat) (c d : XC) (sp dp n : Int32) : Option XH :=
  if (c.1 = 12 ∨ c.1 = 13) ∧ d.1 = c.1 ∧ ¬ sp < 0 ∧ ¬ dp < 0 ∧ ¬ n < 0 ∧ sp.toNatClampNeg + n.toNatClampNeg ≤ c.2.1 ∧ dp.toNatClampNeg + n.toNatClampNeg ≤ d.2.1
  then some (h.set q1 (d.1, d.2.1, va_cpy c.2.2 d.2.2 sp.toNatClampNeg dp.toNatClampNeg n.toNatClampNeg)) else none
/-- Object's constructor, and arraycopy -/
def xnat (k : Nat) (st : List Value) (h : XH) : Option (List Value × XH) :=
  if k = 5 then (match st with | .ref (_ + 1) :: r => if (r.map fun v => v.category).sum ≤ 8 then some (r, h) else none | _ => none)
  else if k = 6 then (match st with
    | .int n :: .int dp :: .ref (q1 + 1) :: .int sp :: .ref (q0 + 1) :: r => if (r.map fun v => v.category).sum ≤ 8 then (match h[q0]? with
      | some c => match h[q1]? with
        | some d => match xcpy h q0 q1 c d sp dp n with
          | some h' => some (r, h')
          | none => none
        | none => none
      | none => none) else none
    | _ => none)
  else if k = 7 then (match st with | .int y :: .int x :: r => if (r.map fun v => v.category).sum ≤ 8 then some (.int (if x < y then y else x) :: r, h) else none | _ => none)
  else if k = 8 then (match st with | .int y :: .int x :: r => if (r.map fun v => v.category).sum ≤ 8 then some (.int (if y < x then y else x) :: r, h) else none | _ => none)
  else if k = 9 then (match st with | .int x :: r => if (r.map fun v => v.category).sum ≤ 8 then some (.int (if 0 ≤ x then x else 0 - x) :: r, h) else none | _ => none)
  else none
def xrt (ret : Option FieldType) (i : Instr) (st : List Value) : Option (Option Value) := match i with
  | .ireturn => match st with
    | [.int v] => if ret = some .int ∨ (ret = some .boolean ∧ (v = 0 ∨ v = 1)) then some (some (.int v)) else none
    | _ => none
  | .lreturn => match st with
    | [.long v] => if ret = some .long then some (some (.long v)) else none
    | _ => none
  | .areturn => match st with
    | [.ref (n + 1)] => (match ret with | some (.object _) => some (some (.ref (n + 1))) | _ => none)
    | _ => none
  | .return_ => match st with
    | [] => if ret = none then some none else none
    | _ => none
  | _ => none
/-- is it a call? of which manner: 0 virtual, 1 static, 2 of a constructor, 3 static of a nest mate, 4 a nest mate's constructor -/
def xinv (i : Instr) : Bool := match i with
  | .invokevirtual _ => true
  | .invokestatic _ => true
  | .invokespecial _ => true
  | _ => false
abbrev XF : Type := Nat → List Value → XH → Option XR
/-- a receiver of its class -/
def xrcv (k ci : Nat) (a : List Value) (h : XH) : Bool := if k = 1 ∨ k = 3 then true else match a with
  | .ref (n + 1) :: _ => match h[n]? with
    | some c => c.1 == ci
    | none => false
  | _ => false
def xcall (call : XF) (e : zE) (st : List Value) (h : XH) : Option (List Value × XH) :=
  let n := e.2.2.2.1.toNat
  let a := (st.take n).reverse
  let r := st.drop n
  if n ≤ st.length ∧ (r.map fun v => v.category).sum ≤ 8 ∧ xrcv e.2.2.1 (zMo e.2.1) a h = true then
    match call e.2.1 a h with
    | some (v, h') => some (v.toList ++ r, h')
    | none => none
  else none
/-- one step: on, or out -/
def xone (xs : Nat × (Nat → Int32)) (call : XF) (m pc : Nat) (L : XL) (st : List Value) (h : XH) : Option (XS ⊕ XR) := match zc m pc with
  | none => none
  | some e =>
    if xinv e.1 = true then
      if e.2.2.1 < 5 then (match xcall call e st h with | some (st', h') => some (.inl (pc + 3, L, st', h')) | none => none)
      else (match xnat e.2.2.1 st h with | some (st', h') => some (.inl (pc + 3, L, st', h')) | none => none)
    else match xop e.1 st with
      | some st' => some (.inl (pc + zLen e.1, L, st', h))
      | none => match xld e.1 L with
        | some v => some (.inl (pc + zLen e.1, L, v :: st, h))
        | none => match xst (zMl m) e.1 L st with
          | some (L', st') => some (.inl (pc + zLen e.1, L', st', h))
          | none => match xbr e.1 e.2.1 pc st with
            | some (t, st') => some (.inl (t, L, st', h))
            | none => match xhp xs ((zMrow m).2.1 == "<init>") (zMo m) e st h with
              | some (st', h') => some (.inl (pc + zLen e.1, L, st', h'))
              | none => match xrt (zMr m) e.1 st with
                | some v => some (.inr (v, h))
                | none => none
def xgo (xs : Nat × (Nat → Int32)) (call : XF) (m : Nat) : Nat → Nat → XL → List Value → XH → Option XR
  | 0, _, _, _, _ => none
  | n + 1, pc, L, st, h => match xone xs call m pc L st h with
    | some (.inl s) => xgo xs call m n s.1 s.2.1 s.2.2.1 s.2.2.2
    | some (.inr r) => some r
    | none => none
/-- the locals at a method's entry -/
def xent : Nat → List Value → XL
  | _, [] => []
  | k, v :: t => (k, v) :: xent (k + v.category) t
/-- a method run with n steps, d calls deep -/
def xrun (xs : Nat × (Nat → Int32)) (n : Nat) : Nat → XF
  | 0 => fun _ _ _ => none
  | d + 1 => fun m a h => if (lg_sl a).length ≤ zMl m then xgo xs (xrun xs n d) m n 0 (xent 0 a) [] h else none
end
section
/-! how a list of cells lies in the heap -/
def zsl (h : XH) : Nat := (h.map (fun c => c.2.1)).sum
def zad (b b0 : Nat) : Nat → Nat
  | 0 => b
  | n + 1 => b0 + n
def zcv (b b0 : Nat) : Value → Value
  | .ref n => .ref (zad b b0 n)
  | v => v
theorem zcv_cat {b b0 : Nat} (v : Value) : (zcv b b0 v).category = v.category := by cases v <;> rfl
def zTys (cy : Nat → ClassId) : List (ClassId × FieldType) := [(cy 12, .int), (cy 13, .long), (cy 14, .boolean), (cy 15, .object "WaterCity$Boat"), (cy 16, .object "WaterCity$House"), (cy 17, .object "WaterCity$Law"), (cy 18, .object "WaterCity$Shelf")]
def zEl (b b0 : Nat) (cy : Nat → ClassId) (c : XC) : va_E :=
  if c.1 < 12 then .inr (c.1, (List.range c.2.1).map (fun j => zcv b b0 (c.2.2 j)))
  else if c.1 = 13 then .inl (cy c.1, c.2.1, .inr (.inl (fun j => xJ (c.2.2 j))))
  else if c.1 < 15 then .inl (cy c.1, c.2.1, .inl (fun j => xI (c.2.2 j)))
  else .inl (cy c.1, c.2.1, .inr (.inr (.inr (.inr (fun j => (xR (c.2.2 j)).map (zad b b0))))))
def zW (b b0 : Nat) (cy : Nat → ClassId) : Nat → XH → va_W
  | _, [] => []
  | k, c :: t => (b0 + k, zEl b b0 cy c) :: zW b b0 cy (k + 1) t
theorem zW_at {b b0 : Nat} {cy : Nat → ClassId} {h : XH} {c : XC} : ∀ {k n : Nat}, h[n]? = some c → (zW b b0 cy k h)[n]? = some (b0 + (k + n), zEl b b0 cy c) := by
  induction h with
  | nil => intro k n h; simp at h
  | cons x t ih =>
    intro k n hn
    cases n with
    | zero => simp at hn; subst hn; rfl
    | succ n =>
      have h1 := ih (k := k + 1) (n := n) (by simpa using hn)
      rw [show k + (n + 1) = k + 1 + n by omega]
      simpa [zW] using h1
theorem zW_len {b b0 : Nat} {cy : Nat → ClassId} {h : XH} : ∀ {k : Nat}, (zW b b0 cy k h).length = h.length := by
  induction h with
  | nil => intro k; rfl
  | cons x t ih => intro k; simp [zW, ih]
theorem zW_set {b b0 : Nat} {cy : Nat → ClassId} {h : XH} {c : XC} : ∀ {k n : Nat}, (zW b b0 cy k h).set n (b0 + (k + n), zEl b b0 cy c) = zW b b0 cy k (h.set n c) := by
  induction h with
  | nil => intro k n; rfl
  | cons x t ih =>
    intro k n
    cases n with
    | zero => rfl
    | succ n =>
      rw [show k + (n + 1) = k + 1 + n by omega]
      simp [zW, ih (k := k + 1) (n := n)]
theorem zW_app {b b0 : Nat} {cy : Nat → ClassId} {h : XH} {c : XC} : ∀ {k : Nat}, zW b b0 cy k (h ++ [c]) = zW b b0 cy k h ++ [(b0 + (k + h.length), zEl b b0 cy c)] := by
  induction h with
  | nil => intro k; rfl
  | cons x t ih =>
    intro k
    simp only [List.cons_append, zW, List.length_cons]
    rw [ih (k := k + 1), show k + (t.length + 1) = k + 1 + t.length by omega]
theorem zW_inv {b b0 : Nat} {cy : Nat → ClassId} {h : XH} {q : Nat × va_E} : ∀ {k n : Nat}, (zW b b0 cy k h)[n]? = some q → ∃ c, h[n]? = some c ∧ q = (b0 + (k + n), zEl b b0 cy c) := by
  intro k n hq
  have hl : n < h.length := by
    have := (List.getElem?_eq_some_iff.mp hq).1
    rwa [zW_len] at this
  have h1 : h[n]? = some h[n] := List.getElem?_eq_getElem hl
  have h2 := zW_at (b := b) (b0 := b0) (cy := cy) (k := k) h1
  exact ⟨_, h1, Option.some.inj (hq.symm.trans h2)⟩
theorem zEl_obj {b b0 : Nat} {cy : Nat → ClassId} {c : XC} (h : c.1 < 12) : zEl b b0 cy c = .inr (c.1, (List.range c.2.1).map (fun j => zcv b b0 (c.2.2 j))) := by unfold zEl; rw [if_pos h]
theorem zEl_J {b b0 : Nat} {cy : Nat → ClassId} {c : XC} (h : c.1 = 13) : zEl b b0 cy c = .inl (cy 13, c.2.1, .inr (.inl (fun j => xJ (c.2.2 j)))) := by unfold zEl; rw [if_neg (by omega), if_pos h, h]
theorem zEl_I {b b0 : Nat} {cy : Nat → ClassId} {c : XC} (h : c.1 = 12) : zEl b b0 cy c = .inl (cy 12, c.2.1, .inl (fun j => xI (c.2.2 j))) := by unfold zEl; rw [if_neg (by omega), if_neg (by omega), if_pos (by omega), h]
theorem zEl_Z {b b0 : Nat} {cy : Nat → ClassId} {c : XC} (h : c.1 = 14) : zEl b b0 cy c = .inl (cy 14, c.2.1, .inl (fun j => xI (c.2.2 j))) := by unfold zEl; rw [if_neg (by omega), if_neg (by omega), if_pos (by omega), h]
theorem zEl_Q {b b0 : Nat} {cy : Nat → ClassId} {c : XC} (h : 15 ≤ c.1) : zEl b b0 cy c = .inl (cy c.1, c.2.1, .inr (.inr (.inr (.inr (fun j => (xR (c.2.2 j)).map (zad b b0)))))) := by unfold zEl; rw [if_neg (by omega), if_neg (by omega), if_neg (by omega)]
def zA (H0 : Heap) : Nat → Prop := fun q => H0.size ≤ q
def zSt (D : va_G) (cy : Nat → ClassId) (b : Nat) (H0 : Heap) (h : XH) (H : Heap) (locs : List Loc) : Prop :=
  va_P D vwCl (zW b H0.size cy 0 h) H ∧ va_D (zA H0) (zW b H0.size cy 0 h) ∧ va_S (zA H0) H0 H locs
theorem zSt.lo {D : va_G} {cy : Nat → ClassId} {b : Nat} {H0 H : Heap} {h : XH} {locs : List Loc} (S : zSt D cy b H0 h H locs) : H0.size + h.length ≤ H.size := by
  obtain ⟨hP, -, hS⟩ := S
  cases hl : h.length with
  | zero => exact hS.1
  | succ n =>
    have h1 : h[n]? = some h[n] := List.getElem?_eq_getElem (by omega)
    have h2 := (hP n _ (zW_at (k := 0) h1)).lt
    simp only at h2
    omega
/-- the classes, by their places -/
def zFtok (t : Nat) (ty : FieldType) (fin : Bool) : Bool := match t, ty with
  | 0, .int => !fin
  | 1, .boolean => !fin
  | 2, .object _ => !fin
  | 2, .array _ => !fin
  | 3, .object _ => fin
  | 3, .array _ => fin
  | _, _ => false
def zty (r : vw_C) (k : Nat) : FieldType := (parseFieldDescriptor (r.2.1 k).2.2.1).getD .int
/-- words that keep, by their places -/
def zIn (p : Nat) (w : Cond) : Bool := decide (lw_tbl[p]? = some w) && goodWord w
def zI0 (p : Nat) (w : Cond) : Bool := decide (lw_tbl[p]? = some w)
def zWd : List Cond := lw_tbl.filter goodWord
theorem zIn_mem {p : Nat} {w : Cond} (h : zIn p w = true) : w ∈ zWd := by
  simp only [zIn, Bool.and_eq_true, decide_eq_true_eq] at h
  exact List.mem_filter.mpr ⟨List.mem_of_getElem? h.1, h.2⟩
theorem zI0_mem {p : Nat} {w : Cond} (h : zI0 p w = true) : w ∈ lw_tbl := by
  simp only [zI0, decide_eq_true_eq] at h
  exact List.mem_of_getElem? h
def zCls (ci : Nat) (r : vw_C) : Bool := match zXp[ci]? with
  | none => false
  | some x =>
  (List.range r.2.2).all (fun k => zIn (x.2.2.getD k 0) (u_lay r.1 r.2.1 k)) && (List.range r.2.2).all (fun k => decide (parseFieldDescriptor (r.2.1 k).2.2.1 = some (zty r k)) && (decide ((r.2.1 k).1 = r.1) && zFtok (zFt ci k) (zty r k) (r.2.1 k).2.2.2))
  && (List.range r.2.2).all (fun k => (List.range r.2.2).all (fun j => k == j || !((r.2.1 k).2.1 == (r.2.1 j).2.1))) && decide ((zFts.getD ci []).length = r.2.2) && zIn x.1 (Cond.instantiable r.1 r.2.2) && zIn x.2.1 (Cond.initialized r.1) && decide (zNm ci = r.1)
set_option maxRecDepth 100000 in
theorem zCls_all : (List.range 12).all (fun ci => match vwCl[ci]? with | some r => zCls ci r | none => false) = true := by decide +kernel
theorem zCls_at {ci : Nat} {r : vw_C} (h : vwCl[ci]? = some r) : zCls ci r = true := by
  have hl : ci < 12 := (List.getElem?_eq_some_iff.mp h).1
  have := List.all_eq_true.mp zCls_all ci (List.mem_range.mpr hl)
  rw [h] at this
  exact this
theorem zCls_use {ci : Nat} {r : vw_C} (h : vwCl[ci]? = some r) : ci < 12 ∧ (∀ w ∈ u_ws r.1 r.2.1 r.2.2, w ∈ zWd) ∧ (∀ k, k < r.2.2 → parseFieldDescriptor (r.2.1 k).2.2.1 = some (zty r k)) ∧ (∀ k, k < r.2.2 → (r.2.1 k).1 = r.1) ∧ (∀ k, k < r.2.2 → zFtok (zFt ci k) (zty r k) (r.2.1 k).2.2.2 = true)
    ∧ (∀ a, a < r.2.2 → ∀ j, j < r.2.2 → a ≠ j → (r.2.1 a).2.1 ≠ (r.2.1 j).2.1) ∧ (zFts.getD ci []).length = r.2.2 ∧ Cond.instantiable r.1 r.2.2 ∈ zWd ∧ Cond.initialized r.1 ∈ zWd ∧ zNm ci = r.1 := by
  have h1 := zCls_at h
  unfold zCls at h1
  split at h1
  · cases h1
  simp only [Bool.and_eq_true, List.all_eq_true, decide_eq_true_eq, List.mem_range] at h1
  obtain ⟨⟨⟨⟨⟨⟨h1, h2⟩, h3⟩, h4⟩, h5⟩, h6⟩, h7⟩ := h1
  refine ⟨(List.getElem?_eq_some_iff.mp h).1, fun w hw => ?_, fun k hk => (h2 k hk).1, fun k hk => (h2 k hk).2.1, fun k hk => (h2 k hk).2.2, fun a ha j hj hne => ?_, h4, zIn_mem h5, zIn_mem h6, h7⟩
  · unfold u_ws at hw
    obtain ⟨k, hk, rfl⟩ := List.mem_map.mp hw
    exact zIn_mem (h1 k (List.mem_range.mp hk))
  have := h3 a ha j hj
  simp [hne] at this
  exact this
/-- the links, by their places -/
theorem z_par {α β : Type} {f : α → β → Bool} {l : List α} {m : List β} (h : (l.zip m).all (fun q => f q.1 q.2) = true) (hl : l.length ≤ m.length) {i : Nat} {a : α} (ha : l[i]? = some a) : ∃ b, f a b = true := by
  have hi : i < l.length := (List.getElem?_eq_some_iff.mp ha).1
  have hm : m[i]? = some m[i] := List.getElem?_eq_getElem (by omega)
  have hz : (l.zip m)[i]? = some (a, m[i]) := by rw [List.getElem?_zip_eq_some]; exact ⟨ha, hm⟩
  exact ⟨_, List.all_eq_true.mp h _ (List.mem_of_getElem? hz)⟩
def zFck (q : Nat × Nat × Nat × Nat) (p : Nat) : Bool := match vwCl[q.2.2.1]? with
  | some r => decide (q.2.2.2 < r.2.2) && zIn p (Cond.fieldLink (zNm q.1) q.2.1 r.1 (r.2.1 q.2.2.2).2.1 (r.2.1 q.2.2.2).2.2.1)
  | none => false
theorem zFl_all : (zFl.zip zFp).all (fun q => zFck q.1 q.2) = true := by decide +kernel
theorem zFl_use {pos o i ci k : Nat} (h : zFl[pos]? = some (o, i, ci, k)) : ∃ r, vwCl[ci]? = some r ∧ k < r.2.2 ∧ Cond.fieldLink (zNm o) i r.1 (r.2.1 k).2.1 (r.2.1 k).2.2.1 ∈ zWd := by
  obtain ⟨p, h1⟩ := z_par zFl_all (by decide +kernel) h
  unfold zFck at h1
  dsimp only at h1
  split at h1
  · rename_i r hr
    simp only [Bool.and_eq_true, decide_eq_true_eq] at h1
    exact ⟨r, hr, h1.1, zIn_mem h1.2⟩
  · cases h1
def zNck (q : Nat × Nat × Nat) (p : Nat) : Bool := match vwCl[q.2.2]? with
  | some r => zIn p (Cond.classLink (zNm q.1) q.2.1 r.1)
  | none => false
theorem zNl_all : (zNl.zip zNp).all (fun q => zNck q.1 q.2) = true := by decide +kernel
theorem zNl_use {pos o i ci : Nat} (h : zNl[pos]? = some (o, i, ci)) : ∃ r, vwCl[ci]? = some r ∧ Cond.classLink (zNm o) i r.1 ∈ zWd := by
  obtain ⟨p, h1⟩ := z_par zNl_all (by decide +kernel) h
  unfold zNck at h1
  dsimp only at h1
  split at h1
  · rename_i r hr
    exact ⟨r, hr, zIn_mem h1⟩
  · cases h1
def zAck (q : Nat × Nat × Nat) (p : Nat) : Bool := decide (15 ≤ q.2.2) && decide (q.2.2 ≤ 18) && zIn p (Cond.classLink (zNm q.1) q.2.1 (zNm (zAe q.2.2))) && decide (Cond.arrayOver (.object (zNm (zAe q.2.2))) ∈ lw_tbl)
theorem zAl_all : (zAl.zip zAp).all (fun q => zAck q.1 q.2) = true := by decide +kernel
theorem zAl_use {pos o i k : Nat} (h : zAl[pos]? = some (o, i, k)) : 15 ≤ k ∧ k ≤ 18 ∧ Cond.classLink (zNm o) i (zNm (zAe k)) ∈ zWd ∧ Cond.arrayOver (.object (zNm (zAe k))) ∈ lw_tbl := by
  obtain ⟨p, h1⟩ := z_par zAl_all (by decide +kernel) h
  simp only [zAck, Bool.and_eq_true, decide_eq_true_eq] at h1
  exact ⟨h1.1.1.1, h1.1.1.2, zIn_mem h1.1.2, h1.2⟩
def zKck (q : Nat × Nat × Int) (p : Nat) : Bool := zIn p (Cond.constant (zNm q.1) q.2.1 (Int32.ofInt q.2.2))
theorem zKl_all : (zKl.zip zKp).all (fun q => zKck q.1 q.2) = true := by decide +kernel
theorem zKl_use {pos o i : Nat} {v : Int} (h : zKl[pos]? = some (o, i, v)) : Cond.constant (zNm o) i (Int32.ofInt v) ∈ zWd := by
  obtain ⟨p, h1⟩ := z_par zKl_all (by decide +kernel) h
  exact zIn_mem h1
def zLck (q : Nat × Nat × Int) (p : Nat) : Bool := zIn p (Cond.constantLong (zNm q.1) q.2.1 (Int64.ofInt q.2.2))
theorem zLl_all : (zLl.zip zLp).all (fun q => zLck q.1 q.2) = true := by decide +kernel
theorem zLl_use {pos o i : Nat} {v : Int} (h : zLl[pos]? = some (o, i, v)) : Cond.constantLong (zNm o) i (Int64.ofInt v) ∈ zWd := by
  obtain ⟨p, h1⟩ := z_par zLl_all (by decide +kernel) h
  exact zIn_mem h1
/-- a call's words: 0 virtual, 1 static, 2 a constructor, 3 a nest mate's static, 4 a nest mate's constructor, 5 Object's constructor, 6 arraycopy, 7 max, 8 min, 9 abs -/
def zNar (cal : Nat) (n : Int) (k : Nat) : Bool := decide ((parseMethodDescriptor (zMrow cal).2.2.1).map (fun d => d.parameters.length + k) = some n.toNat)
def zCok (q : Nat × Nat × Nat × Nat × Int × String) (p : Nat × Nat × Nat) : Bool := match q.2.2.2.1 with
  | 0 => zIn p.1 (Cond.methodLink (zNm q.1) q.2.1 (zMy q.2.2.1)) && (zIn p.2.1 (Cond.instanceMethod (zMy q.2.2.1)) && (zIn p.2.2 (Cond.selects (zMn q.2.2.1) (zMy q.2.2.1) (zMy q.2.2.1)) && (zNar q.2.2.1 q.2.2.2.2.1 1 && (decide (zMo q.2.2.1 < 12) && decide (q.2.2.1 < zLawI)))))
  | 1 => zIn p.1 (Cond.methodLink (zNm q.1) q.2.1 (zMy q.2.2.1)) && (zIn p.2.1 (Cond.static (zMy q.2.2.1)) && (zNar q.2.2.1 q.2.2.2.2.1 0 && decide (q.2.2.1 < zLawI)))
  | 2 => zIn p.1 (Cond.methodLink (zNm q.1) q.2.1 (zMy q.2.2.1)) && (zIn p.2.1 (Cond.instanceMethod (zMy q.2.2.1)) && (decide ((zMrow q.2.2.1).2.1 = "<init>") && (zNar q.2.2.1 q.2.2.2.2.1 1 && (decide (zMo q.2.2.1 < 12) && (decide (zMr q.2.2.1 = none) && decide (q.2.2.1 < zLawI))))))
  | 3 => zI0 p.1 (Cond.methodLinkNest (zNm q.1) q.2.1 (zMy q.2.2.1) q.2.2.2.2.2) && (zIn p.2.1 (Cond.static (zMy q.2.2.1)) && (zNar q.2.2.1 q.2.2.2.2.1 0 && decide (q.2.2.1 < zLawI)))
  | 4 => zI0 p.1 (Cond.methodLinkNest (zNm q.1) q.2.1 (zMy q.2.2.1) q.2.2.2.2.2) && (zIn p.2.1 (Cond.instanceMethod (zMy q.2.2.1)) && (decide ((zMrow q.2.2.1).2.1 = "<init>") && (zNar q.2.2.1 q.2.2.2.2.1 1 && (decide (zMo q.2.2.1 < 12) && (decide (zMr q.2.2.1 = none) && decide (q.2.2.1 < zLawI))))))
  | 5 => zIn p.1 (Cond.methodLink (zNm q.1) q.2.1 objectInit)
  | 6 => zIn p.1 (Cond.methodLink (zNm q.1) q.2.1 arraycopyName)
  | 7 => zIn p.1 (Cond.methodLink (zNm q.1) q.2.1 Lib.Math.max.name)
  | 8 => zIn p.1 (Cond.methodLink (zNm q.1) q.2.1 Lib.Math.min.name)
  | 9 => zIn p.1 (Cond.methodLink (zNm q.1) q.2.1 Lib.Math.abs.name)
  | _ => false
def zCod (w : Cond) (y : MethodName) (n : Nat) (ret : Option FieldType) : Bool := match w with
  | .code y' _ n' ret' => decide (y' = y) && decide (n' = n) && decide (ret' = ret)
  | _ => false
theorem zCod_eq {w : Cond} {y : MethodName} {n : Nat} {ret : Option FieldType} (h : zCod w y n ret = true) : w = Cond.code y (zBy w) n ret := by
  unfold zCod at h
  split at h
  · simp only [Bool.and_eq_true, decide_eq_true_eq] at h
    obtain ⟨⟨rfl, rfl⟩, rfl⟩ := h
    rfl
  · cases h
def zMck (cal : Nat) : Bool := match lw_tbl[(zMrow cal).2.2.2.2.2.1]? with
  | none => false
  | some w => zCod w (zMy cal) (zMl cal) (zMr cal) && (goodWord w && (zIn (zMrow cal).2.2.2.2.2.2 (Cond.initialized (zMn cal)) && (!(zMn cal == "java/lang/invoke/MethodHandle") && (!(zMn cal == "java/lang/invoke/VarHandle") && (decide (zMl cal ≤ 25) && plainName (zMn cal))))))
theorem zMck_all : (List.range zLawI).all zMck = true := by decide +kernel
theorem zMck_use {cal : Nat} (h : cal < zLawI) : Cond.code (zMy cal) (zMb cal) (zMl cal) (zMr cal) ∈ zWd ∧ Cond.initialized (zMn cal) ∈ zWd ∧ (zMn cal ≠ "java/lang/invoke/MethodHandle" ∧ zMn cal ≠ "java/lang/invoke/VarHandle") ∧ zMl cal ≤ 25 ∧ plainName (zMn cal) = true := by
  have h1 := List.all_eq_true.mp zMck_all cal (List.mem_range.mpr h)
  unfold zMck at h1
  split at h1
  · cases h1
  rename_i w hw
  simp only [Bool.and_eq_true, decide_eq_true_eq, Bool.not_eq_true', beq_eq_false_iff_ne] at h1
  have e1 : zMb cal = zBy w := by
    unfold zMb
    rw [if_neg (Nat.ne_of_lt h), List.getD_eq_getElem?_getD, hw]
    rfl
  refine ⟨?_, zIn_mem h1.2.2.1, ⟨h1.2.2.2.1, h1.2.2.2.2.1⟩, h1.2.2.2.2.2.1, h1.2.2.2.2.2.2⟩
  rw [e1, ← zCod_eq h1.1]
  exact List.mem_filter.mpr ⟨List.mem_of_getElem? hw, h1.2.1⟩
theorem zCl_all : (zCl.zip zCp).all (fun q => zCok q.1 q.2) = true := by decide +kernel
theorem zCl_use {o i : Nat} {en : zE} (h : zLkc o i en = true) : ∃ host p, zCok (o, i, en.2.1, en.2.2.1, en.2.2.2.1, host) p = true := by
  unfold zLkc at h
  split at h
  · rename_i r hr
    simp only [Bool.and_eq_true, beq_iff_eq] at h
    obtain ⟨r1, r2, r3, r4, r5, r6⟩ := r
    obtain ⟨rfl, rfl, rfl, rfl, rfl⟩ := h
    obtain ⟨p, h1⟩ := z_par zCl_all (by decide +kernel) hr
    exact ⟨_, _, h1⟩
  · cases h
def zOck : Bool := ([Cond.instanceMethod objectInit, Cond.code objectInit ⟨#[0xb1]⟩ 1 none, Cond.native arraycopyName, Cond.static arraycopyName, Cond.initialized "java/lang/System", Cond.static Lib.Math.max.name, Cond.static Lib.Math.min.name, Cond.static Lib.Math.abs.name, Cond.initialized "java/lang/Math", Cond.code Lib.Math.max.name Lib.Math.max.code 2 (some .int), Cond.code Lib.Math.min.name Lib.Math.min.code 2 (some .int), Cond.code Lib.Math.abs.name Lib.Math.abs.code 1 (some .int)].zip zOp).all (fun q => zIn q.2 q.1)
theorem zOck_all : zOck = true := by decide +kernel
theorem zNat_words : Cond.instanceMethod objectInit ∈ zWd ∧ Cond.code objectInit ⟨#[0xb1]⟩ 1 none ∈ zWd ∧ Cond.native arraycopyName ∈ zWd ∧ Cond.static arraycopyName ∈ zWd ∧ Cond.initialized "java/lang/System" ∈ zWd ∧ Cond.static Lib.Math.max.name ∈ zWd ∧ Cond.static Lib.Math.min.name ∈ zWd ∧ Cond.static Lib.Math.abs.name ∈ zWd ∧ Cond.initialized "java/lang/Math" ∈ zWd ∧ Cond.code Lib.Math.max.name Lib.Math.max.code 2 (some .int) ∈ zWd ∧ Cond.code Lib.Math.min.name Lib.Math.min.code 2 (some .int) ∈ zWd ∧ Cond.code Lib.Math.abs.name Lib.Math.abs.code 1 (some .int) ∈ zWd := by
  have h := zOck_all
  simp only [zOck, zOp, List.zip_cons_cons, List.all_cons, Bool.and_eq_true] at h
  exact ⟨zIn_mem h.1, zIn_mem h.2.1, zIn_mem h.2.2.1, zIn_mem h.2.2.2.1, zIn_mem h.2.2.2.2.1, zIn_mem h.2.2.2.2.2.1, zIn_mem h.2.2.2.2.2.2.1, zIn_mem h.2.2.2.2.2.2.2.1, zIn_mem h.2.2.2.2.2.2.2.2.1, zIn_mem h.2.2.2.2.2.2.2.2.2.1, zIn_mem h.2.2.2.2.2.2.2.2.2.2.1, zIn_mem h.2.2.2.2.2.2.2.2.2.2.2.1⟩
theorem zArr_words : Cond.arrayClass .int ∈ zWd ∧ Cond.arrayClass .long ∈ zWd ∧ Cond.arrayClass .boolean ∈ zWd := by
  refine ⟨List.mem_filter.mpr ⟨?_, rfl⟩, List.mem_filter.mpr ⟨?_, rfl⟩, List.mem_filter.mpr ⟨?_, rfl⟩⟩ <;> decide +kernel
end
section
/-! the small machine's steps are the machine's -/
def zKn (D : va_G) (cy : Nat → ClassId) (b : Nat) (H0 : Heap) (xs : Nat × (Nat → Int32)) (U : State) : Prop :=
  va_K D vwCl (zTys cy) U ∧ va_X b (xs.1 - 1) xs.2 U H0 ∧ (∀ (a : String) (i : Nat) (x : MethodName) (h : String), Cond.methodLinkNest a i x h ∈ lw_tbl → va_Nw (.methodLinkNest a i x h) U) ∧ ∀ C : String, Cond.arrayOver (.object C) ∈ lw_tbl → va_AO C U
theorem zKn.warm {D : va_G} {cy : Nat → ClassId} {b : Nat} {H0 : Heap} {xs : Nat × (Nat → Int32)} {s U : State} (hW : s.WarmedH U.vm) (h : zKn D cy b H0 xs s) : zKn D cy b H0 xs U :=
  ⟨va_K.moved hW.alike h.1, va_X.moved hW.alike h.2.1, fun a i x q hq => va_Nw.warmM hW (h.2.2.1 a i x q hq), fun C hC => va_AO.moved hW.alike (h.2.2.2 C hC)⟩
theorem zKn.same {D : va_G} {cy : Nat → ClassId} {b : Nat} {H0 : Heap} {xs : Nat × (Nat → Int32)} {s U : State} (hv : s.vm = U.vm) (h : zKn D cy b H0 xs s) : zKn D cy b H0 xs U := by
  have hA : s.vm.Alike U.vm := by rw [hv]; exact Vm.Alike.refl _
  exact ⟨va_K.moved hA h.1, va_X.moved hA h.2.1, fun a i x q hq => va_Nw.same rfl hv (h.2.2.1 a i x q hq), fun C hC => va_AO.moved hA (h.2.2.2 C hC)⟩
def zLs (b b0 : Nat) (L : XL) : List (Nat × Value) := L.map (fun q => (q.1, zcv b b0 q.2))
def zFx (p : Program) (R : Room) (s : State) (m : MethodId) (args : Array Value) (meth : Method) (c : Code) (D : va_G) (cy : Nat → ClassId) (b : Nat) (H0 : Heap) (xs : Nat × (Nat → Int32)) (mi n0 : Nat) : Prop :=
  p.tables.exec = Jvm.exec ∧ c.code = zMb mi ∧ c.maxLocals = zMl mi ∧ s.vm.findClass (zMn mi) = some m.cls ∧ (((zMrow mi).2.1 == "<init>") = true → meth.name = "<init>") ∧ (∀ w ∈ zWd, w.before args s = true) ∧ zKn D cy b H0 xs s ∧ b < H0.size ∧ s.heap.size = H0.size + n0 ∧ 2 ≤ R.frames ∧ 80 ≤ R.locals
def zK (p : Program) (l : Launch) (e : Env) (R : Room) (s : State) (m : MethodId) (args : Array Value) (below : List Frame) (meth : Method) (c : Code) (Q : State → Prop) (D : va_G) (cy : Nat → ClassId) (b : Nat) (H0 : Heap) (nL n0 s0 : Nat) (pc : Nat) (L : XL) (st : List Value) (h : XH) : Prop :=
  ∀ (H : Heap) (locs : List Loc) (ls : Array Slot) (cells slots : Nat), zSt D cy b H0 h H locs → lv_has ls nL (zLs b H0.size L) → cells + n0 = h.length → slots + s0 = zsl h →
    W p l e R s m args below meth c H locs cells slots Q (F0 m pc ls (st.map (zcv b H0.size)))
theorem xget_mem {L : XL} {k : Nat} {v : Value} (h : xget L k = some v) : (k, v) ∈ L := by
  induction L with
  | nil => cases h
  | cons q t ih =>
    obtain ⟨j, w⟩ := q
    simp only [xget] at h
    cases hj : (j == k) with
    | true =>
      rw [hj] at h
      have e1 : j = k := by simpa using hj
      have e2 : w = v := by simpa using h
      rw [e1, e2]
      exact List.mem_cons_self
    | false =>
      rw [hj] at h
      exact List.mem_cons_of_mem _ (ih (by simpa using h))
theorem z_at {b b0 nL : Nat} {ls : Array Slot} {L : XL} {k : Nat} {v : Value} (hl : lv_has ls nL (zLs b b0 L)) (h : xget L k = some v) : ls[k]? = some (.val (zcv b b0 v)) :=
  hl.2.2 (k, zcv b b0 v) (List.mem_map.mpr ⟨(k, v), xget_mem h, rfl⟩)
theorem xins_mem {i : Nat} {v : Value} {q : Nat × Value} : ∀ {L : XL}, q ∈ xins i v L → q = (i, v) ∨ (q ∈ L ∧ ¬ q.1 = i) := by
  intro L
  induction L with
  | nil => intro h; exact Or.inl (by simpa [xins] using h)
  | cons x t ih =>
    obtain ⟨j, w⟩ := x
    intro h
    simp only [xins] at h
    cases hj : (j == i) with
    | true =>
      rw [hj] at h
      rcases (by simpa using h : q = (i, v) ∨ q ∈ t ∧ ¬ q.1 = i) with h1 | h1
      · exact Or.inl h1
      · exact Or.inr ⟨List.mem_cons_of_mem _ h1.1, h1.2⟩
    | false =>
      rw [hj] at h
      rcases List.mem_cons.mp (show q ∈ (j, w) :: xins i v t from h) with h1 | h1
      · refine Or.inr ⟨by rw [h1]; exact List.mem_cons_self, ?_⟩
        rw [h1]
        simpa using hj
      · rcases ih h1 with h2 | h2
        · exact Or.inl h2
        · exact Or.inr ⟨List.mem_cons_of_mem _ h2.1, h2.2⟩
theorem z_put1 {b b0 nL : Nat} {ls : Array Slot} {L : XL} {i : Nat} {v : Value} (hc : v.category = 1) (hl : lv_has ls nL ((i, zcv b b0 v) :: (zLs b b0 L).filter (fun q => !(q.1 == i) && !(q.1 + 1 == i && q.2.category == 2)))) : lv_has ls nL (zLs b b0 (xput i v L)) := by
  refine ⟨hl.1, hl.2.1, fun q hq => ?_⟩
  obtain ⟨q0, hq0, rfl⟩ := List.mem_map.mp hq
  rcases xins_mem hq0 with h1 | ⟨h1, h2⟩
  · subst h1
    exact hl.2.2 _ List.mem_cons_self
  · obtain ⟨h3, h4⟩ := List.mem_filter.mp h1
    refine hl.2.2 _ (List.mem_cons_of_mem _ (List.mem_filter.mpr ⟨List.mem_map.mpr ⟨q0, h3, rfl⟩, ?_⟩))
    simp only [xkeep, hc] at h4
    have h5 : (zcv b b0 q0.2).category = q0.2.category := zcv_cat _
    simp only [h5]
    simp at h4 ⊢
    exact ⟨h2, h4⟩
theorem z_put2 {b b0 nL : Nat} {ls : Array Slot} {L : XL} {i : Nat} {v : Value} (hc : v.category = 2) (hl : lv_has ls nL ((i, zcv b b0 v) :: (zLs b b0 L).filter (fun q => !(q.1 == i) && (!(q.1 == i + 1) && !(q.1 + 1 == i && q.2.category == 2))))) : lv_has ls nL (zLs b b0 (xput i v L)) := by
  refine ⟨hl.1, hl.2.1, fun q hq => ?_⟩
  obtain ⟨q0, hq0, rfl⟩ := List.mem_map.mp hq
  rcases xins_mem hq0 with h1 | ⟨h1, h2⟩
  · subst h1
    exact hl.2.2 _ List.mem_cons_self
  · obtain ⟨h3, h4⟩ := List.mem_filter.mp h1
    refine hl.2.2 _ (List.mem_cons_of_mem _ (List.mem_filter.mpr ⟨List.mem_map.mpr ⟨q0, h3, rfl⟩, ?_⟩))
    simp only [xkeep, hc] at h4
    have h5 : (zcv b b0 q0.2).category = q0.2.category := zcv_cat _
    simp only [h5]
    simp at h4 ⊢
    exact ⟨h2, h4.2, h4.1⟩
section ZS
variable {p : Program} {l : Launch} {e : Env} {R : Room} {s : State} {m : MethodId} {args : Array Value} {below : List Frame} {meth : Method} {c : Code} {Q : State → Prop}
variable {D : va_G} {cy : Nat → ClassId} {b : Nat} {H0 : Heap} {xs : Nat × (Nat → Int32)} {mi n0 s0 pc : Nat} {L : XL} {st : List Value} {h : XH}
theorem z_op {i : Instr} {st' : List Value} (F : zFx p R s m args meth c D cy b H0 xs mi n0) (hd : decode (zMb mi) pc = .ok (i, zLen i)) (ho : xop i st = some st') (k : zK p l e R s m args below meth c Q D cy b H0 (zMl mi) n0 s0 (pc + zLen i) L st' h) : zK p l e R s m args below meth c Q D cy b H0 (zMl mi) n0 s0 pc L st h := by
  obtain ⟨hx, hb, -⟩ := F
  intro H locs ls cells slots hS hl hc hs
  replace k := k H locs ls cells slots hS hl hc hs
  clear hS hl hc hs
  cases i
  case iconst n => simp only [xop] at ho; cases ho; exact lv_iconst hx hb hd rfl k
  case bipush n => simp only [xop] at ho; cases ho; exact lv_bipush hx hb hd rfl k
  case sipush n => simp only [xop] at ho; cases ho; exact lv_sipush hx hb hd rfl k
  case lconst n => simp only [xop] at ho; cases ho; exact lv_lconst hx hb hd rfl k
  case iadd =>
    simp only [xop] at ho
    split at ho
    · cases ho; exact lv_iadd hx hb hd k
    · cases ho
  case isub =>
    simp only [xop] at ho
    split at ho
    · cases ho; exact lv_isub hx hb hd k
    · cases ho
  case imul =>
    simp only [xop] at ho
    split at ho
    · cases ho; exact lv_imul hx hb hd k
    · cases ho
  case iand =>
    simp only [xop] at ho
    split at ho
    · cases ho; exact lv_iand hx hb hd k
    · cases ho
  case ior =>
    simp only [xop] at ho
    split at ho
    · cases ho; exact lv_ior hx hb hd k
    · cases ho
  case ishl =>
    simp only [xop] at ho
    split at ho
    · cases ho; exact lv_ishl hx hb hd k
    · cases ho
  case ishr =>
    simp only [xop] at ho
    split at ho
    · cases ho; exact lv_ishr hx hb hd k
    · cases ho
  case ladd =>
    simp only [xop] at ho
    split at ho
    · cases ho; exact lv_ladd hx hb hd k
    · cases ho
  case land =>
    simp only [xop] at ho
    split at ho
    · cases ho; exact lv_land hx hb hd k
    · cases ho
  case lor =>
    simp only [xop] at ho
    split at ho
    · cases ho; exact lv_lor hx hb hd k
    · cases ho
  case lxor =>
    simp only [xop] at ho
    split at ho
    · cases ho; exact lv_lxor hx hb hd k
    · cases ho
  case idiv =>
    simp only [xop] at ho
    split at ho
    · split at ho
      · cases ho
      · rename_i hy
        cases ho; exact lv_idiv hx hb hd hy k
    · cases ho
  case irem =>
    simp only [xop] at ho
    split at ho
    · split at ho
      · cases ho
      · rename_i hy
        cases ho; exact lv_irem hx hb hd hy k
    · cases ho
  case ineg =>
    simp only [xop] at ho
    split at ho
    · cases ho; exact lv_ineg hx hb hd k
    · cases ho
  case i2l =>
    simp only [xop] at ho
    split at ho
    · cases ho; exact lv_i2l hx hb hd rfl k
    · cases ho
  case l2i =>
    simp only [xop] at ho
    split at ho
    · cases ho; exact lv_l2i hx hb hd rfl k
    · cases ho
  case i2b =>
    simp only [xop] at ho
    split at ho
    · cases ho; exact lv_i2b hx hb hd rfl k
    · cases ho
  case i2s =>
    simp only [xop] at ho
    split at ho
    · cases ho; exact lv_i2s hx hb hd rfl k
    · cases ho
  case lshl =>
    simp only [xop] at ho
    split at ho
    · cases ho; exact lv_lshl hx hb hd rfl k
    · cases ho
  case lushr =>
    simp only [xop] at ho
    split at ho
    · cases ho; exact lv_lushr hx hb hd rfl k
    · cases ho
  case lcmp =>
    simp only [xop] at ho
    split at ho
    · cases ho; exact W.lcmp hx hb hd k
    · cases ho
  case dup =>
    simp only [xop] at ho
    split at ho
    · split at ho
      · rename_i hy
        cases ho; exact lv_dup hx hb hd (by rw [zcv_cat]; exact hy) k
      · cases ho
    · cases ho
  case dup_x1 =>
    simp only [xop] at ho
    split at ho
    · split at ho
      · rename_i hy
        cases ho; exact lv_dup_x1 hx hb hd (by rw [zcv_cat]; exact hy.1) (by rw [zcv_cat]; exact hy.2) k
      · cases ho
    · cases ho
  case dup_x2 =>
    simp only [xop] at ho
    split at ho
    · split at ho
      · rename_i hy
        cases ho; exact lv_dup_x2 hx hb hd (by rw [zcv_cat]; exact hy.1) (by rw [zcv_cat]; exact hy.2.1) (by rw [zcv_cat]; exact hy.2.2) k
      · cases ho
    · cases ho
  case dup2 =>
    simp only [xop] at ho
    split at ho
    · split at ho
      · rename_i hy
        cases ho; exact lv_dup2_11 hx hb hd (by rw [zcv_cat]; exact hy.1) (by rw [zcv_cat]; exact hy.2) k
      · cases ho
    · cases ho
  all_goals (exact absurd ho (by simp [xop]))
theorem oInt_eq {o : Option Value} {v : Value} (ho : o.bind oInt = some v) : ∃ x : Int32, o = some (.int x) ∧ v = .int x := by
  cases o with
  | none => cases ho
  | some w => cases w <;> simp [oInt] at ho; exact ⟨_, rfl, ho.symm⟩
theorem oLong_eq {o : Option Value} {v : Value} (ho : o.bind oLong = some v) : ∃ x : Int64, o = some (.long x) ∧ v = .long x := by
  cases o with
  | none => cases ho
  | some w => cases w <;> simp [oLong] at ho; exact ⟨_, rfl, ho.symm⟩
theorem oRef_eq {o : Option Value} {v : Value} (ho : o.bind oRef = some v) : ∃ x : Nat, o = some (.ref x) ∧ v = .ref x := by
  cases o with
  | none => cases ho
  | some w => cases w <;> simp [oRef] at ho; exact ⟨_, rfl, ho.symm⟩
theorem z_ld {i : Instr} {v : Value} (F : zFx p R s m args meth c D cy b H0 xs mi n0) (hd : decode (zMb mi) pc = .ok (i, zLen i)) (ho : xld i L = some v) (k : zK p l e R s m args below meth c Q D cy b H0 (zMl mi) n0 s0 (pc + zLen i) L (v :: st) h) : zK p l e R s m args below meth c Q D cy b H0 (zMl mi) n0 s0 pc L st h := by
  obtain ⟨hx, hb, -⟩ := F
  intro H locs ls cells slots hS hl hc hs
  replace k := k H locs ls cells slots hS hl hc hs
  cases i
  case iload n => obtain ⟨x, h1, rfl⟩ := oInt_eq ho; exact lv_iload hx hb hd (z_at hl h1) k
  case iload_n n => obtain ⟨x, h1, rfl⟩ := oInt_eq ho; exact lv_iload_n hx hb hd rfl (z_at hl h1) k
  case lload n => obtain ⟨x, h1, rfl⟩ := oLong_eq ho; exact lv_lload hx hb hd (z_at hl h1) k
  case lload_n n => obtain ⟨x, h1, rfl⟩ := oLong_eq ho; exact lv_lload_n hx hb hd rfl (z_at hl h1) k
  case aload n => obtain ⟨x, h1, rfl⟩ := oRef_eq ho; exact lv_aload hx hb hd (z_at hl h1) k
  case aload_n n => obtain ⟨x, h1, rfl⟩ := oRef_eq ho; exact lv_aload_n hx hb hd rfl (z_at hl h1) k
  all_goals (exact absurd ho (by simp [xld]))
theorem z_st {i : Instr} {L' : XL} {st' : List Value} (F : zFx p R s m args meth c D cy b H0 xs mi n0) (hd : decode (zMb mi) pc = .ok (i, zLen i)) (ho : xst (zMl mi) i L st = some (L', st')) (k : zK p l e R s m args below meth c Q D cy b H0 (zMl mi) n0 s0 (pc + zLen i) L' st' h) : zK p l e R s m args below meth c Q D cy b H0 (zMl mi) n0 s0 pc L st h := by
  obtain ⟨hx, hb, -⟩ := F
  intro H locs ls cells slots hS hl hc hs
  replace k := fun ls' hl' => k H locs ls' cells slots hS hl' hc hs
  clear hS hc hs
  cases i
  case istore n =>
    simp only [xst, xstI] at ho
    split at ho
    · split at ho
      · rename_i hn
        cases ho; exact lv_istore hx hb hd hl hn rfl (fun ls' hl' => k ls' (z_put1 rfl hl'))
      · cases ho
    · cases ho
  case istore_n n =>
    simp only [xst, xstI] at ho
    split at ho
    · split at ho
      · rename_i hn
        cases ho; exact lv_istore_n hx hb hd rfl hl hn rfl (fun ls' hl' => k ls' (z_put1 rfl hl'))
      · cases ho
    · cases ho
  case lstore n =>
    simp only [xst, xstJ] at ho
    split at ho
    · split at ho
      · rename_i hn
        cases ho; exact lv_lstore hx hb hd hl hn rfl (fun ls' hl' => k ls' (z_put2 rfl hl'))
      · cases ho
    · cases ho
  case lstore_n n =>
    simp only [xst, xstJ] at ho
    split at ho
    · split at ho
      · rename_i hn
        cases ho; exact lv_lstore_n hx hb hd rfl hl hn rfl (fun ls' hl' => k ls' (z_put2 rfl hl'))
      · cases ho
    · cases ho
  case astore n =>
    simp only [xst, xstR] at ho
    split at ho
    · split at ho
      · rename_i hn
        cases ho; exact lv_astore hx hb hd hl hn rfl (fun ls' hl' => k ls' (z_put1 rfl hl'))
      · cases ho
    · cases ho
  case astore_n n =>
    simp only [xst, xstR] at ho
    split at ho
    · split at ho
      · rename_i hn
        cases ho; exact lv_astore_n hx hb hd rfl hl hn rfl (fun ls' hl' => k ls' (z_put1 rfl hl'))
      · cases ho
    · cases ho
  case iinc i n =>
    simp only [xst] at ho
    split at ho
    · rename_i hn
      split at ho
      · rename_i x hg
        cases ho
        obtain ⟨kk, hkk⟩ := List.getElem?_of_mem (List.mem_map.mpr ⟨_, xget_mem hg, rfl⟩ : ((i, zcv b H0.size (.int x)) : Nat × Value) ∈ zLs b H0.size L)
        exact lv_iinc hx hb hd hl hkk rfl hn rfl (fun ls' hl' => k ls' (z_put1 rfl hl'))
      · cases ho
    · cases ho
  all_goals (exact absurd ho (by simp [xst]))
theorem z_br {i : Instr} {tgt t : Nat} {st' : List Value} {ln : Nat} (F : zFx p R s m args meth c D cy b H0 xs mi n0) (hd : decode (zMb mi) pc = .ok (i, ln)) (hln : xbrl i pc tgt ln = true) (ho : xbr i tgt pc st = some (t, st')) (k : zK p l e R s m args below meth c Q D cy b H0 (zMl mi) n0 s0 t L st' h) : zK p l e R s m args below meth c Q D cy b H0 (zMl mi) n0 s0 pc L st h := by
  obtain ⟨hx, hb, -⟩ := F
  intro H locs ls cells slots hS hl hc hs
  replace k := k H locs ls cells slots hS hl hc hs
  clear hS hl hc hs
  cases i
  case goto off =>
    simp only [xbrl, Bool.and_eq_true, decide_eq_true_eq] at hln
    simp only [xbr] at ho
    cases ho
    obtain ⟨h1, rfl⟩ := hln
    exact lv_goto hx hb hd h1 k
  case if_icmp cc off =>
    simp only [xbrl, Bool.and_eq_true, decide_eq_true_eq] at hln
    obtain ⟨h1, rfl⟩ := hln
    cases cc
    case eq =>
      simp only [xbr] at ho
      split at ho
      · cases ho; exact lv_icmp_eq hx hb hd h1 (fun q => by rw [if_pos q] at k; exact k) (fun q => by rw [if_neg q] at k; exact k)
      · cases ho
    case ne =>
      simp only [xbr] at ho
      split at ho
      · cases ho; exact lv_icmp_ne hx hb hd h1 (fun q => by rw [if_pos q] at k; exact k) (fun q => by rw [if_neg (fun z => z q)] at k; exact k)
      · cases ho
    case lt =>
      simp only [xbr] at ho
      split at ho
      · cases ho; exact lv_icmp_lt hx hb hd h1 (fun q => by rw [if_pos q] at k; exact k) (fun q => by rw [if_neg q] at k; exact k)
      · cases ho
    case ge =>
      simp only [xbr] at ho
      split at ho
      · cases ho; exact lv_icmp_ge hx hb hd h1 (fun q => by rw [if_pos q] at k; exact k) (fun q => by rw [if_neg q] at k; exact k)
      · cases ho
    case gt =>
      simp only [xbr] at ho
      split at ho
      · cases ho; exact lv_icmp_gt hx hb hd h1 (fun q => by rw [if_pos q] at k; exact k) (fun q => by rw [if_neg q] at k; exact k)
      · cases ho
    case le =>
      simp only [xbr] at ho
      split at ho
      · cases ho; exact lv_icmp_le hx hb hd h1 (fun q => by rw [if_pos q] at k; exact k) (fun q => by rw [if_neg q] at k; exact k)
      · cases ho
  case ifCond cc off =>
    simp only [xbrl, Bool.and_eq_true, decide_eq_true_eq] at hln
    obtain ⟨h1, rfl⟩ := hln
    cases cc
    case eq =>
      simp only [xbr] at ho
      split at ho
      · cases ho; exact lv_if_eq hx hb hd h1 (fun q => by rw [if_pos q] at k; exact k) (fun q => by rw [if_neg q] at k; exact k)
      · cases ho
    case ne =>
      simp only [xbr] at ho
      split at ho
      · cases ho; exact lv_if_ne hx hb hd h1 (fun q => by rw [if_pos q] at k; exact k) (fun q => by rw [if_neg (fun z => z q)] at k; exact k)
      · cases ho
    case lt =>
      simp only [xbr] at ho
      split at ho
      · cases ho; exact lv_if_lt hx hb hd h1 (fun q => by rw [if_pos q] at k; exact k) (fun q => by rw [if_neg q] at k; exact k)
      · cases ho
    case ge =>
      simp only [xbr] at ho
      split at ho
      · cases ho; exact lv_if_ge hx hb hd h1 (fun q => by rw [if_pos q] at k; exact k) (fun q => by rw [if_neg q] at k; exact k)
      · cases ho
    case gt =>
      simp only [xbr] at ho
      split at ho
      · cases ho; exact lv_if_gt hx hb hd h1 (fun q => by rw [if_pos q] at k; exact k) (fun q => by rw [if_neg q] at k; exact k)
      · cases ho
    case le =>
      simp only [xbr] at ho
      split at ho
      · cases ho; exact lv_if_le hx hb hd h1 (fun q => by rw [if_pos q] at k; exact k) (fun q => by rw [if_neg q] at k; exact k)
      · cases ho
  case tableswitch dflt lo hi offs =>
    simp only [xbr] at ho
    split at ho
    · rename_i x r
      split at ho
      · rename_i hout
        split at ho
        · rename_i hz
          cases ho
          exact lv_tableOut hx hb hd hout (by omega) k
        · cases ho
      · rename_i hout
        split at ho
        · rename_i off hoff
          split at ho
          · rename_i hz
            cases ho
            exact lv_tableIn hx hb hd (fun q => hout (Or.inl q)) (fun q => hout (Or.inr q)) hoff (by omega) k
          · cases ho
        · cases ho
    · cases ho
  case lookupswitch dflt ps =>
    simp only [xbrl] at hln
    simp only [xbr] at ho
    split at ho
    · rename_i x r
      split at ho
      · rename_i hz
        cases ho
        exact lv_lookup hx hb hd hln rfl (by omega) k
      · cases ho
    · cases ho
  all_goals (exact absurd ho (by simp [xbr]))
end ZS
end
section
/-! the small machine's steps on the heap are the machine's -/
theorem zW_at0 {b b0 : Nat} {cy : Nat → ClassId} {h : XH} {c : XC} {n : Nat} (hn : h[n]? = some c) : (zW b b0 cy 0 h)[n]? = some (b0 + n, zEl b b0 cy c) := by
  have := zW_at (b := b) (b0 := b0) (cy := cy) (k := 0) hn
  rwa [Nat.zero_add] at this
theorem zW_set0 {b b0 : Nat} {cy : Nat → ClassId} {h : XH} {c : XC} {n : Nat} : (zW b b0 cy 0 h).set n (b0 + n, zEl b b0 cy c) = zW b b0 cy 0 (h.set n c) := by
  have := zW_set (b := b) (b0 := b0) (cy := cy) (h := h) (c := c) (k := 0) (n := n)
  rwa [Nat.zero_add] at this
theorem zsl_set {h : XH} {n : Nat} {c : XC} {f : Nat → Value} (hn : h[n]? = some c) : zsl (h.set n (c.1, c.2.1, f)) = zsl h := by
  have hl : n < h.length := (List.getElem?_eq_some_iff.mp hn).1
  have hc : h[n] = c := (List.getElem?_eq_some_iff.mp hn).2
  unfold zsl
  rw [List.map_set]
  congr 1
  apply List.ext_getElem?
  intro j
  rw [List.getElem?_set]
  split
  · rename_i hj
    subst hj
    simp [hl, hc]
  · rfl
theorem zsl_app {h : XH} {c : XC} : zsl (h ++ [c]) = zsl h + c.2.1 := by simp [zsl]
theorem zEl_set_obj {b b0 : Nat} {cy : Nat → ClassId} {c : XC} {k : Nat} {v : Value} (hc : c.1 < 12) : zEl b b0 cy (c.1, c.2.1, updV c.2.2 k v) = .inr (c.1, ((List.range c.2.1).map (fun j => zcv b b0 (c.2.2 j))).set k (zcv b b0 v)) := by
  rw [zEl_obj (by exact hc)]
  congr 2
  apply List.ext_getElem?
  intro j
  rw [List.getElem?_set]
  simp only [List.length_map, List.length_range, List.getElem?_map]
  by_cases hj : j < c.2.1
  · rw [List.getElem?_range hj]
    by_cases hk : k = j
    · subst hk
      simp [hj, updV]
    · have : ¬ j = k := fun q => hk q.symm
      simp [hk, updV, this]
  · have : (List.range c.2.1)[j]? = none := by simp; omega
    rw [this]
    by_cases hk : k = j
    · subst hk
      simp [hj]
    · simp [hk]
theorem zFit {t : Nat} {ty : FieldType} {fin : Bool} {v : Value} {b b0 : Nat} (h1 : zFtok t ty fin = true) (h2 : xfit t v = true) : narrow ty (zcv b b0 v) = zcv b b0 v ∧ fits ty (zcv b b0 v) = true ∧ (fin = true → t = 3) := by
  unfold xfit at h2
  split at h2
  · rename_i x
    simp only [Bool.or_eq_true, Bool.and_eq_true, beq_iff_eq] at h2
    rcases h2 with rfl | ⟨rfl, h3⟩
    · unfold zFtok at h1
      split at h1 <;> first | cases h1 | skip
      all_goals (first | (rename_i h; cases h; done) | skip)
      · exact ⟨rfl, rfl, fun q => by rw [q] at h1; cases h1⟩
    · unfold zFtok at h1
      split at h1 <;> first | cases h1 | skip
      all_goals (first | (rename_i h; cases h; done) | skip)
      · rcases h3 with rfl | rfl
        · exact ⟨rfl, rfl, fun q => by rw [q] at h1; cases h1⟩
        · exact ⟨rfl, rfl, fun q => by rw [q] at h1; cases h1⟩
  · rename_i n
    simp only [Bool.and_eq_true, Bool.or_eq_true, beq_iff_eq] at h2
    rcases h2.1 with rfl | rfl
    · unfold zFtok at h1
      split at h1 <;> first | cases h1 | skip
      all_goals (first | (rename_i h; cases h; done) | skip)
      · exact ⟨rfl, rfl, fun q => by rw [q] at h1; cases h1⟩
      · exact ⟨rfl, rfl, fun q => by rw [q] at h1; cases h1⟩
    · unfold zFtok at h1
      split at h1 <;> first | cases h1 | skip
      all_goals (first | (rename_i h; cases h; done) | skip)
      · exact ⟨rfl, rfl, fun _ => rfl⟩
      · exact ⟨rfl, rfl, fun _ => rfl⟩
  · cases h2
theorem zDef_ok {t : Nat} {ty : FieldType} {fin : Bool} (h : zFtok t ty fin = true) : defaultValue ty = zDef t := by
  unfold zFtok at h
  split at h <;> first | rfl | cases h
theorem zDef_cv {t b b0 : Nat} : zcv b b0 (zDef t) = zDef t := by
  unfold zDef
  cases (t == 0 || t == 1) <;> rfl
section ZH
variable {p : Program} {l : Launch} {e : Env} {R : Room} {s : State} {m : MethodId} {args : Array Value} {below : List Frame} {meth : Method} {c : Code} {Q : State → Prop}
variable {D : va_G} {cy : Nat → ClassId} {b : Nat} {H0 : Heap} {xs : Nat × (Nat → Int32)} {mi n0 s0 pc : Nat} {L : XL} {r : List Value} {h : XH}
theorem z_size {H : Heap} {locs : List Loc} {cells slots : Nat} {g : JFrame} (F : zFx p R s m args meth c D cy b H0 xs mi n0) (S : zSt D cy b H0 h H locs) (hc : cells + n0 = h.length) (k : H.size = H0.size + h.length → W p l e R s m args below meth c H locs cells slots Q g) : W p l e R s m args below meth c H locs cells slots Q g := fun T hT X => k (by
  obtain ⟨-, -, h1, -⟩ := X.same
  have h2 := S.lo
  have h3 : T.heap.size ≤ s.heap.size + cells := h1
  obtain ⟨-, -, -, -, -, -, -, -, h4, -⟩ := F
  rw [hT] at h3
  omega) T hT X
theorem zSt_put {n : Nat} {cc : XC} {f : Nat → Value} {H1 : Heap} {locs1 : List Loc} {E : va_E} (hE : zEl b H0.size cy (cc.1, cc.2.1, f) = E) (hP : va_P D vwCl ((zW b H0.size cy 0 h).set n (H0.size + n, E)) H1) (hD : va_D (zA H0) ((zW b H0.size cy 0 h).set n (H0.size + n, E))) (hS : va_S (zA H0) H0 H1 locs1) : zSt D cy b H0 (h.set n (cc.1, cc.2.1, f)) H1 locs1 := by
  subst hE
  rw [zW_set0] at hP hD
  exact ⟨hP, hD, hS⟩
theorem z_getf {i ci k pos n : Nat} {cc : XC} (F : zFx p R s m args meth c D cy b H0 xs mi n0) (hd : decode (zMb mi) pc = .ok (.getfield i, 3)) (hz : zFl[pos]? = some (zMo mi, i, ci, k)) (hn : h[n]? = some cc) (hc1 : cc.1 = ci) (hk : k < cc.2.1) (kk : zK p l e R s m args below meth c Q D cy b H0 (zMl mi) n0 s0 (pc + 3) L (cc.2.2 k :: r) h) : zK p l e R s m args below meth c Q D cy b H0 (zMl mi) n0 s0 pc L (.ref (n + 1) :: r) h := by
  obtain ⟨hx, hb, -, hown, -, hts, hKn, -⟩ := F
  obtain ⟨q, hq, hkN, hw⟩ := zFl_use hz
  obtain ⟨h12, hin, hty, hdc, hft, hnm, hlen, -⟩ := zCls_use hq
  intro H locs ls cells slots hS hl hcc hss
  have kk := kk H locs ls cells slots hS hl hcc hss
  have he := zW_at0 (b := b) (b0 := H0.size) (cy := cy) hn
  rw [zEl_obj (by omega), hc1] at he
  exact va_get (own := zMn mi) (ref := q.1) (C := q.1) (T := q.2.1) (N := q.2.2) (ci := ci) hx hb hts hin hown hKn.1 hS.1 n he hq k hkN (hts _ hw) (fun x hx => by rw [hdc k hkN] at hx; exact hx) (v := zcv b H0.size (cc.2.2 k)) (by simp [hk]) hd kk
theorem z_putf {i ci k pos n : Nat} {cc : XC} {v : Value} (F : zFx p R s m args meth c D cy b H0 xs mi n0) (hd : decode (zMb mi) pc = .ok (.putfield i, 3)) (hz : zFl[pos]? = some (zMo mi, i, ci, k)) (hn : h[n]? = some cc) (hc1 : cc.1 = ci) (hk : k < cc.2.1) (hv : xfit (zFt ci k) v = true) (hf : zFt ci k = 3 → ((zMrow mi).2.1 == "<init>") = true ∧ zMo mi = ci) (kk : zK p l e R s m args below meth c Q D cy b H0 (zMl mi) n0 s0 (pc + 3) L r (h.set n (cc.1, cc.2.1, updV cc.2.2 k v))) : zK p l e R s m args below meth c Q D cy b H0 (zMl mi) n0 s0 pc L (v :: .ref (n + 1) :: r) h := by
  obtain ⟨hx, hb, -, hown, hmn, hts, hKn, -⟩ := F
  obtain ⟨q, hq, hkN, hw⟩ := zFl_use hz
  obtain ⟨h12, hin, hty, hdc, hft, hnm, hlen, -, -, hnmc⟩ := zCls_use hq
  obtain ⟨hv1, hv2, hv3⟩ := zFit (b := b) (b0 := H0.size) (hft k hkN) hv
  intro H locs ls cells slots hS hl hcc hss
  have he := zW_at0 (b := b) (b0 := H0.size) (cy := cy) hn
  rw [zEl_obj (by omega), hc1] at he
  have hEl : zEl b H0.size cy (cc.1, cc.2.1, updV cc.2.2 k v) = .inr (ci, ((List.range cc.2.1).map (fun j => zcv b H0.size (cc.2.2 j))).set k (zcv b H0.size v)) := by rw [← hc1]; exact zEl_set_obj (by omega)
  have fin : ∀ (H1 : Heap) (locs1 : List Loc), va_P D vwCl ((zW b H0.size cy 0 h).set n (H0.size + n, .inr (ci, ((List.range cc.2.1).map (fun j => zcv b H0.size (cc.2.2 j))).set k (zcv b H0.size v)))) H1 → va_D (zA H0) ((zW b H0.size cy 0 h).set n (H0.size + n, .inr (ci, ((List.range cc.2.1).map (fun j => zcv b H0.size (cc.2.2 j))).set k (zcv b H0.size v)))) → va_S (zA H0) H0 H1 locs1 → W p l e R s m args below meth c H1 locs1 cells slots Q (F0 m (pc + 3) ls (r.map (zcv b H0.size))) := fun H1 locs1 hP hD hS1 =>
    kk H1 locs1 ls cells slots (zSt_put hEl hP hD hS1) hl (by simpa using hcc) (by rw [zsl_set hn]; exact hss)
  cases hfi : (q.2.1 k).2.2.2 with
  | false =>
    exact va_put (own := zMn mi) (ref := q.1) (C := q.1) (T := q.2.1) (N := q.2.2) (ci := ci) hx hb hts hin (zty q) hty hnm hown hKn.1 hS.1 hS.2.1 hS.2.2 n he hq k hkN (hts _ hw) (fun x hx => by rw [hdc k hkN] at hx; exact hx) hfi (hty k hkN) hv1 hv2 (by simpa using hk) hd fin
  | true =>
    obtain ⟨h3, h4⟩ := hf (hv3 hfi)
    exact va_putF (own := zMn mi) (ref := q.1) (C := q.1) (T := q.2.1) (N := q.2.2) (ci := ci) hx hb hts hin (zty q) hty hnm hown hKn.1 hS.1 hS.2.1 hS.2.2 n he hq k hkN (hts _ hw) (fun x hx => by rw [hdc k hkN] at hx; exact hx) hfi (hmn h3) (by rw [hdc k hkN, ← hnmc, ← h4]) (hty k hkN) hv1 hv2 (by simpa using hk) hd fin
theorem z_iald {n : Nat} {i : Int32} {cc : XC} (F : zFx p R s m args meth c D cy b H0 xs mi n0) (hd : decode (zMb mi) pc = .ok (.iaload, 1)) (hn : h[n]? = some cc) (hc1 : cc.1 = 12) (hi : ¬ (i < 0 ∨ cc.2.1 ≤ i.toNatClampNeg)) (kk : zK p l e R s m args below meth c Q D cy b H0 (zMl mi) n0 s0 (pc + 1) L (.int (xI (cc.2.2 i.toNatClampNeg)) :: r) h) : zK p l e R s m args below meth c Q D cy b H0 (zMl mi) n0 s0 pc L (.int i :: .ref (n + 1) :: r) h := by
  obtain ⟨hx, hb, -, hown, -, hts, hKn, -⟩ := F
  intro H locs ls cells slots hS hl hcc hss
  have kk := kk H locs ls cells slots hS hl hcc hss
  have he := zW_at0 (b := b) (b0 := H0.size) (cy := cy) hn
  rw [zEl_I hc1] at he
  exact va_iald hx hb hKn.1 hS.1 n 0 he rfl hi hd kk
theorem z_sald {i : Int32} (F : zFx p R s m args meth c D cy b H0 xs mi n0) (hd : decode (zMb mi) pc = .ok (.iaload, 1)) (hi : ¬ (i < 0 ∨ xs.1 - 1 ≤ i.toNatClampNeg)) (kk : zK p l e R s m args below meth c Q D cy b H0 (zMl mi) n0 s0 (pc + 1) L (.int (xs.2 i.toNatClampNeg) :: r) h) : zK p l e R s m args below meth c Q D cy b H0 (zMl mi) n0 s0 pc L (.int i :: .ref 0 :: r) h := by
  obtain ⟨hx, hb, -, hown, -, hts, hKn, hbl, -⟩ := F
  intro H locs ls cells slots hS hl hcc hss
  have kk := kk H locs ls cells slots hS hl hcc hss
  exact va_sld hx hb hKn.2.1 hbl (fun q => Nat.lt_irrefl _ (Nat.lt_of_lt_of_le hbl q)) hS.2.2 hi hd kk
theorem z_slen (F : zFx p R s m args meth c D cy b H0 xs mi n0) (hd : decode (zMb mi) pc = .ok (.arraylength, 1)) (kk : zK p l e R s m args below meth c Q D cy b H0 (zMl mi) n0 s0 (pc + 1) L (.int (Int32.ofNat (xs.1 - 1)) :: r) h) : zK p l e R s m args below meth c Q D cy b H0 (zMl mi) n0 s0 pc L (.ref 0 :: r) h := by
  obtain ⟨hx, hb, -, hown, -, hts, hKn, hbl, -⟩ := F
  intro H locs ls cells slots hS hl hcc hss
  have kk := kk H locs ls cells slots hS hl hcc hss
  exact va_slen hx hb hKn.2.1 hbl (fun q => Nat.lt_irrefl _ (Nat.lt_of_lt_of_le hbl q)) hS.2.2 hd kk
theorem z_zald {n : Nat} {i : Int32} {cc : XC} (F : zFx p R s m args meth c D cy b H0 xs mi n0) (hd : decode (zMb mi) pc = .ok (.baload, 1)) (hn : h[n]? = some cc) (hc1 : cc.1 = 14) (hi : ¬ (i < 0 ∨ cc.2.1 ≤ i.toNatClampNeg)) (kk : zK p l e R s m args below meth c Q D cy b H0 (zMl mi) n0 s0 (pc + 1) L (.int (xI (cc.2.2 i.toNatClampNeg)) :: r) h) : zK p l e R s m args below meth c Q D cy b H0 (zMl mi) n0 s0 pc L (.int i :: .ref (n + 1) :: r) h := by
  obtain ⟨hx, hb, -, hown, -, hts, hKn, -⟩ := F
  intro H locs ls cells slots hS hl hcc hss
  have kk := kk H locs ls cells slots hS hl hcc hss
  have he := zW_at0 (b := b) (b0 := H0.size) (cy := cy) hn
  rw [zEl_Z hc1] at he
  exact va_zald hx hb hKn.1 hS.1 n 2 he rfl hi hd kk
theorem z_lald {n : Nat} {i : Int32} {cc : XC} (F : zFx p R s m args meth c D cy b H0 xs mi n0) (hd : decode (zMb mi) pc = .ok (.laload, 1)) (hn : h[n]? = some cc) (hc1 : cc.1 = 13) (hi : ¬ (i < 0 ∨ cc.2.1 ≤ i.toNatClampNeg)) (kk : zK p l e R s m args below meth c Q D cy b H0 (zMl mi) n0 s0 (pc + 1) L (.long (xJ (cc.2.2 i.toNatClampNeg)) :: r) h) : zK p l e R s m args below meth c Q D cy b H0 (zMl mi) n0 s0 pc L (.int i :: .ref (n + 1) :: r) h := by
  obtain ⟨hx, hb, -, hown, -, hts, hKn, -⟩ := F
  intro H locs ls cells slots hS hl hcc hss
  have kk := kk H locs ls cells slots hS hl hcc hss
  have he := zW_at0 (b := b) (b0 := H0.size) (cy := cy) hn
  rw [zEl_J hc1] at he
  exact va_lald hx hb hKn.1 hS.1 n 1 he rfl hi hd kk
theorem zTys_q {k : Nat} (h1 : 15 ≤ k) (h2 : k ≤ 18) : (zTys cy)[k - 12]? = some (cy k, .object (zNm (zAe k))) := by
  rcases (show k = 15 ∨ k = 16 ∨ k = 17 ∨ k = 18 by omega) with rfl | rfl | rfl | rfl <;> rfl
theorem zcv_rf (v : Option Nat) (b b0 : Nat) : zcv b b0 (va_rf v) = va_rf (v.map (zad b b0)) := by cases v <;> rfl
theorem z_aald {n : Nat} {i : Int32} {cc : XC} (F : zFx p R s m args meth c D cy b H0 xs mi n0) (hd : decode (zMb mi) pc = .ok (.aaload, 1)) (hn : h[n]? = some cc) (hc1 : 15 ≤ cc.1) (hc2 : cc.1 ≤ 18) (hi : ¬ (i < 0 ∨ cc.2.1 ≤ i.toNatClampNeg)) (kk : zK p l e R s m args below meth c Q D cy b H0 (zMl mi) n0 s0 (pc + 1) L (va_rf (xR (cc.2.2 i.toNatClampNeg)) :: r) h) : zK p l e R s m args below meth c Q D cy b H0 (zMl mi) n0 s0 pc L (.int i :: .ref (n + 1) :: r) h := by
  obtain ⟨hx, hb, -, hown, -, hts, hKn, -⟩ := F
  intro H locs ls cells slots hS hl hcc hss
  have kk := kk H locs ls cells slots hS hl hcc hss
  have he := zW_at0 (b := b) (b0 := H0.size) (cy := cy) hn
  rw [zEl_Q hc1] at he
  rw [List.map_cons, zcv_rf] at kk
  exact va_aldq hx hb hKn.1 hS.1 n (cc.1 - 12) he (zTys_q hc1 hc2) hi hd kk
theorem z_alen {n : Nat} {cc : XC} (F : zFx p R s m args meth c D cy b H0 xs mi n0) (hd : decode (zMb mi) pc = .ok (.arraylength, 1)) (hn : h[n]? = some cc) (hc1 : 12 ≤ cc.1) (hc2 : cc.1 ≤ 18) (kk : zK p l e R s m args below meth c Q D cy b H0 (zMl mi) n0 s0 (pc + 1) L (.int (Int32.ofNat cc.2.1) :: r) h) : zK p l e R s m args below meth c Q D cy b H0 (zMl mi) n0 s0 pc L (.ref (n + 1) :: r) h := by
  obtain ⟨hx, hb, -, hown, -, hts, hKn, -⟩ := F
  intro H locs ls cells slots hS hl hcc hss
  have kk := kk H locs ls cells slots hS hl hcc hss
  have he := zW_at0 (b := b) (b0 := H0.size) (cy := cy) hn
  rcases (show cc.1 = 12 ∨ cc.1 = 13 ∨ cc.1 = 14 ∨ 15 ≤ cc.1 by omega) with h1 | h1 | h1 | h1
  · rw [zEl_I h1] at he
    exact va_alen (ty := .int) hx hb hKn.1 hS.1 n 0 he rfl rfl hd kk
  · rw [zEl_J h1] at he
    exact va_alen (ty := .long) hx hb hKn.1 hS.1 n 1 he rfl rfl hd kk
  · rw [zEl_Z h1] at he
    exact va_alen (ty := .boolean) hx hb hKn.1 hS.1 n 2 he rfl rfl hd kk
  · rw [zEl_Q h1] at he
    exact va_alen hx hb hKn.1 hS.1 n (cc.1 - 12) he (zTys_q h1 hc2) rfl hd kk
theorem z_iast {n : Nat} {i x : Int32} {cc : XC} (F : zFx p R s m args meth c D cy b H0 xs mi n0) (hd : decode (zMb mi) pc = .ok (.iastore, 1)) (hn : h[n]? = some cc) (hc1 : cc.1 = 12) (hi : ¬ (i < 0 ∨ cc.2.1 ≤ i.toNatClampNeg)) (kk : zK p l e R s m args below meth c Q D cy b H0 (zMl mi) n0 s0 (pc + 1) L r (h.set n (cc.1, cc.2.1, updV cc.2.2 i.toNatClampNeg (.int x)))) : zK p l e R s m args below meth c Q D cy b H0 (zMl mi) n0 s0 pc L (.int x :: .int i :: .ref (n + 1) :: r) h := by
  obtain ⟨hx, hb, -, hown, -, hts, hKn, -⟩ := F
  intro H locs ls cells slots hS hl hcc hss
  have he := zW_at0 (b := b) (b0 := H0.size) (cy := cy) hn
  rw [zEl_I hc1] at he
  refine va_iast hx hb hKn.1 hS.1 hS.2.1 hS.2.2 n 0 he rfl hi hd (fun H1 locs1 hP hD hS1 => kk H1 locs1 ls cells slots (zSt_put ?_ hP hD hS1) hl (by simpa using hcc) (by rw [zsl_set hn]; exact hss))
  rw [zEl_I (by exact hc1)]
  congr 4
  funext j
  by_cases hj : j = i.toNatClampNeg <;> simp [updV, upd, hj, xI]
theorem z_zast {n : Nat} {i x : Int32} {cc : XC} (F : zFx p R s m args meth c D cy b H0 xs mi n0) (hd : decode (zMb mi) pc = .ok (.bastore, 1)) (hn : h[n]? = some cc) (hc1 : cc.1 = 14) (hi : ¬ (i < 0 ∨ cc.2.1 ≤ i.toNatClampNeg)) (kk : zK p l e R s m args below meth c Q D cy b H0 (zMl mi) n0 s0 (pc + 1) L r (h.set n (cc.1, cc.2.1, updV cc.2.2 i.toNatClampNeg (.int (vp_nar .boolean x))))) : zK p l e R s m args below meth c Q D cy b H0 (zMl mi) n0 s0 pc L (.int x :: .int i :: .ref (n + 1) :: r) h := by
  obtain ⟨hx, hb, -, hown, -, hts, hKn, -⟩ := F
  intro H locs ls cells slots hS hl hcc hss
  have he := zW_at0 (b := b) (b0 := H0.size) (cy := cy) hn
  rw [zEl_Z hc1] at he
  refine va_zast hx hb hKn.1 hS.1 hS.2.1 hS.2.2 n 2 he rfl hi hd (fun H1 locs1 hP hD hS1 => kk H1 locs1 ls cells slots (zSt_put ?_ hP hD hS1) hl (by simpa using hcc) (by rw [zsl_set hn]; exact hss))
  rw [zEl_Z (by exact hc1)]
  congr 4
  funext j
  by_cases hj : j = i.toNatClampNeg <;> simp [updV, upd, hj, xI]
theorem z_last {n : Nat} {i : Int32} {x : Int64} {cc : XC} (F : zFx p R s m args meth c D cy b H0 xs mi n0) (hd : decode (zMb mi) pc = .ok (.lastore, 1)) (hn : h[n]? = some cc) (hc1 : cc.1 = 13) (hi : ¬ (i < 0 ∨ cc.2.1 ≤ i.toNatClampNeg)) (kk : zK p l e R s m args below meth c Q D cy b H0 (zMl mi) n0 s0 (pc + 1) L r (h.set n (cc.1, cc.2.1, updV cc.2.2 i.toNatClampNeg (.long x)))) : zK p l e R s m args below meth c Q D cy b H0 (zMl mi) n0 s0 pc L (.long x :: .int i :: .ref (n + 1) :: r) h := by
  obtain ⟨hx, hb, -, hown, -, hts, hKn, -⟩ := F
  intro H locs ls cells slots hS hl hcc hss
  have he := zW_at0 (b := b) (b0 := H0.size) (cy := cy) hn
  rw [zEl_J hc1] at he
  refine va_last hx hb hKn.1 hS.1 hS.2.1 hS.2.2 n 1 he rfl hi hd (fun H1 locs1 hP hD hS1 => kk H1 locs1 ls cells slots (zSt_put ?_ hP hD hS1) hl (by simpa using hcc) (by rw [zsl_set hn]; exact hss))
  rw [zEl_J (by exact hc1)]
  congr 5
  funext j
  by_cases hj : j = i.toNatClampNeg <;> simp [updV, vp_updL, hj, xJ]
theorem z_aast {n v : Nat} {i : Int32} {cc dd : XC} (F : zFx p R s m args meth c D cy b H0 xs mi n0) (hd : decode (zMb mi) pc = .ok (.aastore, 1)) (hn : h[n]? = some cc) (hv : h[v]? = some dd) (hc1 : 15 ≤ cc.1) (hc2 : cc.1 ≤ 18) (hdk : dd.1 = zAe cc.1) (hi : ¬ (i < 0 ∨ cc.2.1 ≤ i.toNatClampNeg)) (kk : zK p l e R s m args below meth c Q D cy b H0 (zMl mi) n0 s0 (pc + 1) L r (h.set n (cc.1, cc.2.1, updV cc.2.2 i.toNatClampNeg (.ref (v + 1))))) : zK p l e R s m args below meth c Q D cy b H0 (zMl mi) n0 s0 pc L (.ref (v + 1) :: .int i :: .ref (n + 1) :: r) h := by
  obtain ⟨hx, hb, -, hown, -, hts, hKn, -⟩ := F
  intro H locs ls cells slots hS hl hcc hss
  have he := zW_at0 (b := b) (b0 := H0.size) (cy := cy) hn
  have hf := zW_at0 (b := b) (b0 := H0.size) (cy := cy) hv
  rw [zEl_Q hc1] at he
  have hd12 : dd.1 < 12 := by rw [hdk]; unfold zAe; (repeat' split) <;> omega
  rw [zEl_obj hd12] at hf
  obtain ⟨rr, hrr⟩ : ∃ rr, vwCl[dd.1]? = some rr := ⟨_, List.getElem?_eq_getElem (by exact hd12)⟩
  have hnm := (zCls_use hrr).2.2.2.2.2.2.2.2.2
  refine va_astq (r := rr) hx hb hKn.1 hS.1 hS.2.1 hS.2.2 n (cc.1 - 12) v dd.1 he (by rw [zTys_q hc1 hc2, ← hdk, hnm]) hf hrr hi hd (fun H1 locs1 hP hD hS1 => kk H1 locs1 ls cells slots (zSt_put ?_ hP hD hS1) hl (by simpa using hcc) (by rw [zsl_set hn]; exact hss))
  rw [zEl_Q (by exact hc1)]
  congr 7
  funext j
  by_cases hj : j = i.toNatClampNeg <;> simp [updV, va_up, hj, xR, zad]
/-- behind a new cell -/
theorem z_push {H H1 : Heap} {locs : List Loc} {cc : XC} (S : zSt D cy b H0 h H locs) (hsz : H.size = H0.size + h.length) (z1 : H1.size = H.size + 1) (o1 : ∀ q : Nat, q < H.size → H1[q]? = H[q]?) (hat : va_at D vwCl (H.size, zEl b H0.size cy cc) H1) : zSt D cy b H0 (h ++ [cc]) H1 locs := by
  obtain ⟨hP, hD, hS⟩ := S
  have hk : ∀ (k : Nat) (x : Nat × va_E), (zW b H0.size cy 0 h)[k]? = some x → H1[x.1]? = H[x.1]? := fun k x hx => o1 x.1 ((hP k x hx).lt)
  unfold zSt
  rw [zW_app, Nat.zero_add, ← hsz]
  refine ⟨(hP.kept hk).app (fun k x hx => ?_), hD.push hP rfl (by show H0.size ≤ H.size; exact hS.1), ⟨Nat.le_trans hS.1 (by omega), fun x h1 h2 => (o1 x (Nat.lt_of_lt_of_le h1 hS.1)).trans (hS.2.1 x h1 h2), hS.2.2⟩⟩
  have hz : k < 1 := (List.getElem?_eq_some_iff.mp hx).1
  rw [show k = 0 by omega] at hx
  cases hx
  exact hat
theorem z_new {i ci pos : Nat} {cc : XC} (F : zFx p R s m args meth c D cy b H0 xs mi n0) (hd : decode (zMb mi) pc = .ok (.new i, 3)) (hz : zNl[pos]? = some (zMo mi, i, ci)) (hc : zNw ci = some cc) (hr1 : h.length + 1 ≤ n0 + R.cells) (hr2 : zsl h + cc.2.1 ≤ s0 + R.slots) (kk : zK p l e R s m args below meth c Q D cy b H0 (zMl mi) n0 s0 (pc + 3) L (.ref (h.length + 1) :: r) (h ++ [cc])) : zK p l e R s m args below meth c Q D cy b H0 (zMl mi) n0 s0 pc L r h := by
  have F0' := F
  obtain ⟨hx, hb, -, hown, -, hts, hKn, -⟩ := F
  obtain ⟨q, hq, hw⟩ := zNl_use hz
  obtain ⟨h12, hin, hty, hdc, hft, hnm, hlen, hins, hini, -⟩ := zCls_use hq
  unfold zNw at hc
  split at hc
  · rename_i ll hll
    cases hc
    rw [List.getD_eq_getElem?_getD, hll] at hlen
    simp only [Option.getD_some] at hlen
    intro H locs ls cells slots hS hl hcc hss
    refine z_size F0' hS hcc (fun hsz => ?_)
    have hKq := hKn.1.1 ci _ hq
    refine W.newcK hx hb hown (hts _ hw) (hts _ hins) (hts _ hini) rfl hd (by omega) (by simp only at hr2; omega) hKq.2.1 rfl fun H1 kC hkC e1 z1 o1 => ?_
    have hat : va_at D vwCl (H.size, zEl b H0.size cy (ci, ll.length, fun j => match ll[j]? with | some t => zDef t | none => .null)) H1 := by
      rw [zEl_obj (by exact h12)]
      refine ⟨_, hq, (u_born (zty q) hts hin hKq hkC e1 hty).to (fun j hj => ?_)⟩
      have hj' : j < ll.length := by omega
      have h1 := hft j hj
      unfold zFt at h1
      rw [hll] at h1
      simp only [Option.bind_some, List.getElem?_eq_getElem hj', Option.getD_some] at h1
      simp only [vp_V, List.getD_eq_getElem?_getD, List.getElem?_map, List.getElem?_range hj', Option.map_some, Option.getD_some, List.getElem?_eq_getElem hj']
      rw [zDef_ok h1, zDef_cv]
    have kk := kk H1 locs ls (cells + 1) (slots + q.2.2) (z_push hS hsz z1 o1 hat) hl (by simp; omega) (by rw [zsl_app]; simp only; omega)
    have e2 : zad b H0.size (h.length + 1) = H.size := by rw [hsz]; rfl
    rw [List.map_cons] at kk
    simp only [zcv, e2] at kk
    exact kk
  · cases hc
theorem z_newa {at_ : ArrayType} {ty : FieldType} {k : Nat} {n : Int32} {t0 : Nat} {f : Nat → Value} (F : zFx p R s m args meth c D cy b H0 xs mi n0) (hd : decode (zMb mi) pc = .ok (.newarray at_, 2)) (hty : newarray.typeOf at_ = ty) (hw : Cond.arrayClass ty ∈ zWd) (hn : ¬ n < 0) (hbnd : n.toNatClampNeg ≤ 1000000) (hcb : componentBytes ty ≤ 8)
    (hEl : ∀ N, zEl b H0.size cy (k, N, f) = .inl (cy k, N, .inl (fun _ => 0)) ∧ defaultValue ty = .int 0 ∨ zEl b H0.size cy (k, N, f) = .inl (cy k, N, .inr (.inl (fun _ => 0))) ∧ defaultValue ty = .long 0) (ht0 : (zTys cy)[t0]? = some (cy k, ty)) (hob : ∀ C, ty ≠ .object C)
    (hr1 : h.length + 1 ≤ n0 + R.cells) (hr2 : zsl h + n.toNatClampNeg ≤ s0 + R.slots) (kk : zK p l e R s m args below meth c Q D cy b H0 (zMl mi) n0 s0 (pc + 2) L (.ref (h.length + 1) :: r) (h ++ [(k, n.toNatClampNeg, f)])) : zK p l e R s m args below meth c Q D cy b H0 (zMl mi) n0 s0 pc L (.int n :: r) h := by
  have F0' := F
  obtain ⟨hx, hb, -, hown, -, hts, hKn, -⟩ := F
  subst hty
  intro H locs ls cells slots hS hl hcc hss
  refine z_size F0' hS hcc (fun hsz => ?_)
  refine va_newaK hx hb (hts _ hw) rfl hd rfl hn rfl (Nat.le_trans (Nat.mul_le_mul hbnd hcb) (by decide)) (by omega) (by omega) rfl fun H1 cA e1 z1 o1 hAr hNm => ?_
  have hra := (hKn.1.2 t0 _ ht0).2
  have hcA : cA = cy k := by
    have h2 : s.vm.findClass ("[" ++ (newarray.typeOf at_).toString) = some (cy k) := by
      generalize newarray.typeOf at_ = tt at hra hob ⊢
      cases tt <;> first | exact hra | exact absurd rfl (hob _)
    exact Option.some.inj (hNm.symm.trans h2)
  subst hcA
  have hat : va_at D vwCl (H.size, zEl b H0.size cy (k, n.toNatClampNeg, f)) H1 := by
    rcases hEl n.toNatClampNeg with ⟨g1, g2⟩ | ⟨g1, g2⟩
    · rw [g1]
      show H1[H.size]? = some (vp_cell _ _)
      rw [e1, g2]
      rfl
    · rw [g1]
      show H1[H.size]? = some (vp_cell _ _)
      rw [e1, g2]
      rfl
  have kk := kk H1 locs ls (cells + 1) (slots + n.toNatClampNeg) (z_push hS hsz z1 o1 hat) hl (by simp; omega) (by rw [zsl_app]; simp only; omega)
  have e2 : zad b H0.size (h.length + 1) = H.size := by rw [hsz]; rfl
  rw [List.map_cons] at kk
  simp only [zcv, e2] at kk
  exact kk
theorem z_anew {i k pos : Nat} {n : Int32} (F : zFx p R s m args meth c D cy b H0 xs mi n0) (hd : decode (zMb mi) pc = .ok (.anewarray i, 3)) (hz : zAl[pos]? = some (zMo mi, i, k)) (hn : ¬ n < 0) (hbnd : n.toNatClampNeg ≤ 1000000)
    (hr1 : h.length + 1 ≤ n0 + R.cells) (hr2 : zsl h + n.toNatClampNeg ≤ s0 + R.slots) (kk : zK p l e R s m args below meth c Q D cy b H0 (zMl mi) n0 s0 (pc + 3) L (.ref (h.length + 1) :: r) (h ++ [(k, n.toNatClampNeg, fun _ => .null)])) : zK p l e R s m args below meth c Q D cy b H0 (zMl mi) n0 s0 pc L (.int n :: r) h := by
  have F0' := F
  obtain ⟨hx, hb, -, hown, -, hts, hKn, -⟩ := F
  obtain ⟨h15, h18, hw1, hw2⟩ := zAl_use hz
  intro H locs ls cells slots hS hl hcc hss
  refine z_size F0' hS hcc (fun hsz => ?_)
  refine W.anew hx hb hown (hts _ hw1) (va_AO.use (hKn.2.2.2 _ hw2)) rfl hd rfl hn (Nat.le_trans (Nat.mul_le_mul_right 4 hbnd) (by decide)) (by omega) (by omega) fun cA kA comp f1 f2 f3 f4 => ?_
  generalize hH1 : H.push ({ cls := cA, slots := Array.replicate n.toNatClampNeg .null, vm := .none } : Cell) = H1
  have z1 : H1.size = H.size + 1 := by rw [← hH1, Array.size_push]
  have e1 : H1[H.size]? = some (arrV cA n.toNatClampNeg (fun _ => .null)) := by rw [← hH1, Array.getElem?_push_size, ← arrV_new]
  have o1 : ∀ q : Nat, q < H.size → H1[q]? = H[q]? := fun q hq => by rw [← hH1, Array.getElem?_push, if_neg (Nat.ne_of_lt hq)]
  obtain ⟨kB, cB, g1, g2, g3, g4⟩ := (hKn.1.2 (k - 12) _ (zTys_q h15 h18)).2
  have hcA : cA = cy k := Option.some.inj (f1.symm.trans g4)
  subst hcA
  have hat : va_at D vwCl (H.size, zEl b H0.size cy (k, n.toNatClampNeg, fun _ => .null)) H1 := by
    rw [zEl_Q (by exact h15)]
    show H1[H.size]? = some (vp_cell _ _)
    rw [e1]
    rfl
  have kk := kk H1 locs ls (cells + 1) (slots + n.toNatClampNeg) (z_push hS hsz z1 o1 hat) hl (by simp; omega) (by rw [zsl_app]; simp only; omega)
  have e2 : zad b H0.size (h.length + 1) = H.size := by rw [hsz]; rfl
  rw [List.map_cons] at kk
  simp only [zcv, e2] at kk
  exact kk
theorem z_ldc {i : Nat} {v : Int} {pos : Nat} (F : zFx p R s m args meth c D cy b H0 xs mi n0) (hd : decode (zMb mi) pc = .ok (.ldc i, 2)) (hz : zKl[pos]? = some (zMo mi, i, v)) (kk : zK p l e R s m args below meth c Q D cy b H0 (zMl mi) n0 s0 (pc + 2) L (.int (Int32.ofInt v) :: r) h) : zK p l e R s m args below meth c Q D cy b H0 (zMl mi) n0 s0 pc L r h := by
  obtain ⟨hx, hb, -, hown, -, hts, hKn, -⟩ := F
  intro H locs ls cells slots hS hl hcc hss
  exact lv_ldc hx hb hown (hts _ (zKl_use hz)) hd (kk H locs ls cells slots hS hl hcc hss)
theorem z_ldcw {i : Nat} {v : Int} {pos : Nat} (F : zFx p R s m args meth c D cy b H0 xs mi n0) (hd : decode (zMb mi) pc = .ok (.ldc_w i, 3)) (hz : zKl[pos]? = some (zMo mi, i, v)) (kk : zK p l e R s m args below meth c Q D cy b H0 (zMl mi) n0 s0 (pc + 3) L (.int (Int32.ofInt v) :: r) h) : zK p l e R s m args below meth c Q D cy b H0 (zMl mi) n0 s0 pc L r h := by
  obtain ⟨hx, hb, -, hown, -, hts, hKn, -⟩ := F
  intro H locs ls cells slots hS hl hcc hss
  exact lv_ldcw hx hb hown (hts _ (zKl_use hz)) hd (kk H locs ls cells slots hS hl hcc hss)
theorem z_ldc2 {i : Nat} {v : Int} {pos : Nat} (F : zFx p R s m args meth c D cy b H0 xs mi n0) (hd : decode (zMb mi) pc = .ok (.ldc2_w i, 3)) (hz : zLl[pos]? = some (zMo mi, i, v)) (kk : zK p l e R s m args below meth c Q D cy b H0 (zMl mi) n0 s0 (pc + 3) L (.long (Int64.ofInt v) :: r) h) : zK p l e R s m args below meth c Q D cy b H0 (zMl mi) n0 s0 pc L r h := by
  obtain ⟨hx, hb, -, hown, -, hts, hKn, -⟩ := F
  intro H locs ls cells slots hS hl hcc hss
  exact lv_ldc2 hx hb hown (hts _ (zLl_use hz)) hd (kk H locs ls cells slots hS hl hcc hss)
end ZH
end
section
/-! calls, ends, runs -/
def zPc (D : va_G) (cy : Nat → ClassId) (b : Nat) (H0 : Heap) (xs : Nat × (Nat → Int32)) (h : XH) (av : List Value) : Array Value → State → Prop := fun v U =>
  v = (av.map (zcv b H0.size)).toArray ∧ U.heap.size = H0.size + h.length ∧ zSt D cy b H0 h U.heap [] ∧ zKn D cy b H0 xs U
def zQc (D : va_G) (cy : Nat → ClassId) (b : Nat) (H0 : Heap) (v : Option Value) (h : XH) : Array Value → State → Outcome → State → Prop := fun _ _ o t =>
  o = .returned (v.map (zcv b H0.size)) ∧ zSt D cy b H0 h t.heap []
def zws (cal : Nat) : List Cond := .code (zMy cal) (zMb cal) (zMl cal) (zMr cal) :: zWd
theorem zWd_good : GoodIn zWd zWd := fun w hw => ⟨hw, good_of_word (List.mem_filter.mp hw).2⟩
theorem zws_good {cal : Nat} (h : cal < zLawI) : GoodIn zWd (zws cal) := by
  intro w hw
  rcases List.mem_cons.mp hw with h1 | h1
  · subst h1
    exact zWd_good _ (zMck_use h).1
  · exact zWd_good w h1
def zrm (d cs ss : Nat) : Room := { frames := d + 2, cells := cs, slots := ss, locals := 48 * (d + 2) }
/-- what a call comes to -/
def zCal (l : Launch) (D : va_G) (cy : Nat → ClassId) (b : Nat) (H0 : Heap) (xs : Nat × (Nat → Int32)) (d : Nat) (call : XF) : Prop :=
  ∀ (cal : Nat) (a : List Value) (h : XH) (v : Option Value) (h' : XH), cal < zLawI → call cal a h = some (v, h') → h.length ≤ h'.length ∧ zsl h ≤ zsl h' ∧
    Met l (zMy cal) (zws cal) (zrm d (h'.length - h.length) (zsl h' - zsl h)) (zPc D cy b H0 xs h a) (zQc D cy b H0 v h') (h'.length - h.length) (zsl h' - zsl h) (zA H0)
theorem xrcv_use {k ci : Nat} {a : List Value} {h : XH} (hr : xrcv k ci a h = true) (hk : ¬ (k = 1 ∨ k = 3)) : ∃ n As cc, a = .ref (n + 1) :: As ∧ h[n]? = some cc ∧ cc.1 = ci := by
  unfold xrcv at hr
  rw [if_neg hk] at hr
  split at hr
  · rename_i n As
    split at hr
    · rename_i cc hcc
      exact ⟨n, As, cc, rfl, hcc, eq_of_beq hr⟩
    · cases hr
  · cases hr
theorem z_cat {b b0 : Nat} {r : List Value} (h : (r.map fun v => v.category).sum ≤ 8) : ((r.map (zcv b b0)).map fun v => v.category).sum ≤ 8 := by
  rw [List.map_map]
  have : ((fun v : Value => v.category) ∘ zcv b b0) = fun v => v.category := funext fun v => zcv_cat v
  rw [this]
  exact h
theorem xnat_eq {k : Nat} {st st' : List Value} {h h' : XH} (ho : xnat k st h = some (st', h')) : h' = h ∨ ∃ (q1 : Nat) (d : XC) (f : Nat → Value), h[q1]? = some d ∧ h' = h.set q1 (d.1, d.2.1, f) := by
  unfold xnat at ho
  split at ho
  · repeat' split at ho
    all_goals first | (cases ho; done) | (cases ho; exact Or.inl rfl)
  · split at ho
    · split at ho
      · split at ho
        · split at ho
          · split at ho
            · rename_i d hd
              split at ho
              · rename_i h1 hcp
                cases ho
                unfold xcpy at hcp
                split at hcp
                · cases hcp
                  exact Or.inr ⟨_, d, _, hd, rfl⟩
                · cases hcp
              · cases ho
            · cases ho
          · cases ho
        · cases ho
      · cases ho
    · repeat' split at ho
      all_goals first | (cases ho; done) | (cases ho; exact Or.inl rfl)
theorem xnat_len' {k : Nat} {st st' : List Value} {h h' : XH} (ho : xnat k st h = some (st', h')) : h.length ≤ h'.length ∧ zsl h ≤ zsl h' := by
  rcases xnat_eq ho with rfl | ⟨q1, d, f, hd, rfl⟩
  · exact ⟨Nat.le_refl _, Nat.le_refl _⟩
  · exact ⟨by simp, by rw [zsl_set hd]; exact Nat.le_refl _⟩
section ZC
variable {p : Program} {l : Launch} {e : Env} {R : Room} {s : State} {m : MethodId} {args : Array Value} {below : List Frame} {meth : Method} {c : Code} {Q : State → Prop}
variable {D : va_G} {cy : Nat → ClassId} {b : Nat} {H0 : Heap} {xs : Nat × (Nat → Int32)} {mi n0 s0 pc : Nat} {L : XL} {st : List Value} {h : XH}
theorem z_back {H : Heap} {locs : List Loc} {ls : Array Slot} {cells slots mc ms : Nat} {v : Option Value} {h' : XH} {a : Array Value} {st0 rest : List Value} (hL : ∀ q ∈ locs, zA H0 q.base)
    (hr : va_Run p l e R s m args below meth c H locs cells slots mc ms (F0 m pc ls st0) rest (zQc D cy b H0 v h' a) (zA H0))
    (kk : ∀ (H1 : Heap) (locs1 : List Loc), zSt D cy b H0 h' H1 locs1 → W p l e R s m args below meth c H1 locs1 (cells + mc) (slots + ms) Q (F0 m (pc + 3) ls ((v.map (zcv b H0.size)).toList ++ rest))) : W p l e R s m args below meth c H locs cells slots Q (F0 m pc ls st0) := by
  intro T hT X
  obtain ⟨v1, st₀, t, T', LL, h0, X', hL', e1, e2, ⟨hv, hS⟩, st⟩ := hr T hT X
  cases hv
  obtain ⟨t2, a1, b1⟩ := kk T'.heap (locs ++ LL) (by
    rw [e1]
    exact ⟨hS.1, hS.2.1, hS.2.2.1, hS.2.2.2.1, fun q hq => by
      rcases List.mem_append.mp hq with h1 | h1
      · exact hL q h1
      · exact hL' q h1⟩) T' rfl X'
  exact ⟨t2, st t2 a1, b1⟩
theorem zPc_blind {av : List Value} : FrameBlind (zPc D cy b H0 xs h av) := fun a U g mk q => ⟨q.1, q.2.1, q.2.2.1, zKn.same rfl q.2.2.2⟩
theorem zPc_of {H : Heap} {locs : List Loc} (hK : zKn D cy b H0 xs s) (S : zSt D cy b H0 h H locs) (hsz : H.size = H0.size + h.length) (av : List Value) : ∀ U : State, U.heap = H → s.WarmedH U.vm → zPc D cy b H0 xs h av (av.map (zcv b H0.size)).toArray U := fun U hU hW =>
  ⟨rfl, by rw [hU]; exact hsz, by rw [hU]; exact ⟨S.1, S.2.1, S.2.2.1, S.2.2.2.1, fun _ hq => by cases hq⟩, hK.warm hW⟩
theorem z_call {d : Nat} {call : XF} {en : zE} {st' : List Value} {h' : XH} (F : zFx p R s m args meth c D cy b H0 xs mi n0) (hcal : zCal l D cy b H0 xs d call) (hR : d + 3 ≤ R.frames ∧ 48 * (d + 3) ≤ R.locals) (hd : decode (zMb mi) pc = .ok (en.1, 3)) (hinv : xinv en.1 = true) (hlk : zLink (zMo mi) en = true) (h5 : en.2.2.1 < 5) (ho : xcall call en st h = some (st', h'))
    (hr1 : h'.length ≤ n0 + R.cells) (hr2 : zsl h' ≤ s0 + R.slots) (kk : zK p l e R s m args below meth c Q D cy b H0 (zMl mi) n0 s0 (pc + 3) L st' h') : zK p l e R s m args below meth c Q D cy b H0 (zMl mi) n0 s0 pc L st h := by
  have F0' := F
  obtain ⟨hx, hb, hml, hown, hmn, hts, hKn, hbl, hsz0, hfr, hlo⟩ := F
  simp only [xcall] at ho
  split at ho
  · rename_i hcond
    obtain ⟨hlen, hcat, hrcv⟩ := hcond
    split at ho
    · rename_i v h1 hcl
      cases ho
      have hlk' : ∃ i, zLkc (zMo mi) i en = true ∧ ((en.1 = .invokevirtual i ∧ en.2.2.1 = 0) ∨ (en.1 = .invokestatic i ∧ (en.2.2.1 = 1 ∨ en.2.2.1 = 3)) ∨ (en.1 = .invokespecial i ∧ (en.2.2.1 = 2 ∨ en.2.2.1 = 4))) := by
        cases he : en.1 <;> rw [he] at hinv <;> simp [xinv] at hinv
        all_goals (rename_i i; refine ⟨i, ?_⟩; unfold zLink at hlk; rw [he] at hlk; simp at hlk; refine ⟨hlk.1, ?_⟩; simp; omega)
      obtain ⟨i, hzl, hform⟩ := hlk'
      obtain ⟨host, pp, hok⟩ := zCl_use hzl
      have hcalI : en.2.1 < zLawI := by
        unfold zCok at hok
        rcases (show en.2.2.1 = 0 ∨ en.2.2.1 = 1 ∨ en.2.2.1 = 2 ∨ en.2.2.1 = 3 ∨ en.2.2.1 = 4 by omega) with h6 | h6 | h6 | h6 | h6 <;> rw [h6] at hok <;> simp only [Bool.and_eq_true, decide_eq_true_eq] at hok
        · exact hok.2.2.2.2.2
        · exact hok.2.2.2
        · exact hok.2.2.2.2.2.2
        · exact hok.2.2.2
        · exact hok.2.2.2.2.2.2
      obtain ⟨hm1, hm2, hMet⟩ := hcal _ _ _ _ _ hcalI hcl
      obtain ⟨g1, g2, g3, g4, -⟩ := zMck_use hcalI
      have hsplit : st = (st.take en.2.2.2.1.toNat) ++ st.drop en.2.2.2.1.toNat := (List.take_append_drop _ _).symm
      generalize hN : en.2.2.2.1.toNat = N at *
      generalize hr : st.drop N = r at *
      intro H locs ls cells slots hS hl hcc hss
      refine z_size F0' hS hcc (fun hsz => ?_)
      have kk' : ∀ (H1 : Heap) (locs1 : List Loc), zSt D cy b H0 h' H1 locs1 → W p l e R s m args below meth c H1 locs1 (cells + (h'.length - h.length)) (slots + (zsl h' - zsl h)) Q (F0 m (pc + 3) ls ((v.map (zcv b H0.size)).toList ++ r.map (zcv b H0.size))) := fun H1 locs1 S1 => by
        have := kk H1 locs1 ls (cells + (h'.length - h.length)) (slots + (zsl h' - zsl h)) S1 hl (by omega) (by omega)
        rw [List.map_append] at this
        cases v <;> exact this
      have hfix : CallFix p m c (zMb mi) (zMl mi) s args zWd (zMn mi) := ⟨hx, hb, hml, hown, hts⟩
      have hroom : (zrm d (h'.length - h.length) (zsl h' - zsl h)).frames + 1 ≤ R.frames ∧ 8 + (zMl en.2.1 + 11) + (zrm d (h'.length - h.length) (zsl h' - zsl h)).locals ≤ R.locals := ⟨by show d + 2 + 1 ≤ _; omega, by show 8 + (zMl en.2.1 + 11) + 48 * (d + 2) ≤ _; omega⟩
      have hrc : ((r.map (zcv b H0.size)).map fun v => v.category).sum ≤ 8 := by
        rw [List.map_map]
        have : ((fun v : Value => v.category) ∘ zcv b H0.size) = fun v => v.category := funext fun v => zcv_cat v
        rw [this]
        exact hcat
      have hstat : ∀ (k : Nat), k = 1 ∨ k = 3 → en.2.2.1 = k → en.1 = .invokestatic i → (Cond.static (zMy en.2.1)).before args s = true → (parseMethodDescriptor (zMrow en.2.1).2.2.1).map (fun d => d.parameters.length + 0) = some N →
          ((Cond.methodLink (zMn mi) i (zMy en.2.1)).before args s = true ∨ va_Nw (.methodLinkNest (zMn mi) i (zMy en.2.1) host) s) → W p l e R s m args below meth c H locs cells slots Q (F0 m pc ls (st.map (zcv b H0.size))) := by
        intro k hk1 hk2 hform2 hst2 hnar hlink
        have hAs : (((st.take N).reverse).map (zcv b H0.size)).length = N := by simp; omega
        have hst3 : st.map (zcv b H0.size) = (((st.take N).reverse).map (zcv b H0.size)).reverse ++ r.map (zcv b H0.size) := by
          conv => lhs; rw [hsplit]
          simp
        rw [hform2] at hd
        rcases hlink with hlink | hlink
        · exact z_back hS.2.2.2.2 (va_runS hfix hMet ⟨callB_of N hts (zws_good hcalI) rfl rfl rfl (hts _ g2) hlink ⟨g3.1, g3.2, hnar⟩ hroom, hst2⟩ ⟨zPc_blind, zPc_of hKn hS hsz _⟩ rfl hAs hl.1 hst3 (lv_room hrc) hd ⟨by omega, by omega⟩) kk'
        · exact z_back hS.2.2.2.2 (va_runSN hfix hMet ⟨va_cnB N hts (zws_good hcalI) rfl rfl rfl hlink (hts _ g2) ⟨g3.1, g3.2, hnar⟩ hroom, hst2, trivial⟩ ⟨zPc_blind, zPc_of hKn hS hsz _⟩ rfl hAs hl.1 hst3 (lv_room hrc) hd ⟨by omega, by omega⟩) kk'
      have hobj : ¬ (en.2.2.1 = 1 ∨ en.2.2.1 = 3) → zMo en.2.1 < 12 → (parseMethodDescriptor (zMrow en.2.1).2.2.1).map (fun d => d.parameters.length + 1) = some N → ∃ (n : Nat) (As : List Value) (cc : XC), (st.take N).reverse = .ref (n + 1) :: As ∧ h[n]? = some cc ∧ cc.1 = zMo en.2.1 ∧ (As.map (zcv b H0.size)).length = N - 1 ∧ st.map (zcv b H0.size) = (As.map (zcv b H0.size)).reverse ++ .ref (H0.size + n) :: r.map (zcv b H0.size) ∧ (parseMethodDescriptor (zMrow en.2.1).2.2.1).map (fun d => d.parameters.length) = some (N - 1) := by
        intro hk h12 hnar
        obtain ⟨n, As, cc, ha, hcc1, hcc2⟩ := xrcv_use hrcv hk
        have hlen2 : (st.take N).reverse.length = N := by simp; omega
        rw [ha] at hlen2
        refine ⟨n, As, cc, ha, hcc1, hcc2, by simp at hlen2 ⊢; omega, ?_, ?_⟩
        · have : st.take N = As.reverse ++ [.ref (n + 1)] := by
            have := congrArg List.reverse ha
            simpa using this
          conv => lhs; rw [hsplit, this]
          simp [zcv, zad]
        · cases hpd : parseMethodDescriptor (zMrow en.2.1).2.2.1 with
          | none => rw [hpd] at hnar; cases hnar
          | some dd =>
            rw [hpd] at hnar
            simp only [Option.map_some, Option.some.injEq] at hnar ⊢
            omega
      have hrecv : ∀ (n : Nat) (cc : XC), h[n]? = some cc → cc.1 = zMo en.2.1 → zMo en.2.1 < 12 → ∃ cellB : Cell, H[H0.size + n]? = some cellB ∧ cellB.vm.isStatics = false ∧ s.vm.findClass (zMn en.2.1) = some cellB.cls := by
        intro n cc hcc1 hcc2 h12
        have he := zW_at0 (b := b) (b0 := H0.size) (cy := cy) hcc1
        rw [zEl_obj (by omega), hcc2] at he
        obtain ⟨rr, hrr⟩ : ∃ rr, vwCl[zMo en.2.1]? = some rr := ⟨_, List.getElem?_eq_getElem (by exact h12)⟩
        have := va_recv hKn.1 hS.1 hrr he
        rwa [← (zCls_use hrr).2.2.2.2.2.2.2.2.2] at this
      unfold zCok at hok
      rcases (show en.2.2.1 = 0 ∨ en.2.2.1 = 1 ∨ en.2.2.1 = 2 ∨ en.2.2.1 = 3 ∨ en.2.2.1 = 4 by omega) with h6 | h6 | h6 | h6 | h6 <;> rw [h6] at hok hform <;> simp only [Bool.and_eq_true, decide_eq_true_eq, zNar, hN] at hok
      · obtain ⟨o1, o2, o3, o4, o5, -⟩ := hok
        obtain ⟨n, As, cc, ha, hcc1, hcc2, hAs, hst3, hnar⟩ := hobj (by omega) o5 o4
        have hf : en.1 = .invokevirtual i := by
          rcases hform with ⟨q, -⟩ | ⟨-, q⟩ | ⟨-, q⟩ <;> first | exact q | omega
        rw [hf] at hd
        rw [ha] at hMet
        rw [hst3]
        exact z_back hS.2.2.2.2 (va_runV (C := zMn en.2.1) hfix hMet ⟨callB_of (N - 1) hts (zws_good hcalI) rfl rfl rfl (hts _ g2) (hts _ (zIn_mem o1)) ⟨g3.1, g3.2, hnar⟩ hroom, hts _ (zIn_mem o2), hts _ (zIn_mem o3)⟩ ⟨zPc_blind, hrecv n cc hcc1 hcc2 o5, zPc_of hKn hS hsz _⟩ rfl hAs hl.1 rfl (lv_room hrc) hd ⟨by omega, by omega⟩) kk'
      · obtain ⟨o1, o2, o3, -⟩ := hok
        have hf : en.1 = .invokestatic i := by
          rcases hform with ⟨-, q⟩ | ⟨q, -⟩ | ⟨-, q⟩ <;> first | exact q | omega
        exact hstat 1 (Or.inl rfl) h6 hf (hts _ (zIn_mem o2)) o3 (Or.inl (hts _ (zIn_mem o1)))
      · obtain ⟨o1, o2, o3, o4, o5, o6, -⟩ := hok
        obtain ⟨n, As, cc, ha, hcc1, hcc2, hAs, hst3, hnar⟩ := hobj (by omega) o5 o4
        have hf : en.1 = .invokespecial i := by
          rcases hform with ⟨-, q⟩ | ⟨-, q⟩ | ⟨q, -⟩ <;> first | exact q | omega
        rw [hf] at hd
        rw [ha] at hMet
        rw [hst3]
        exact z_back hS.2.2.2.2 (va_runI hfix hMet ⟨callB_of (N - 1) hts (zws_good hcalI) (by unfold zws; rw [o6]) rfl rfl (hts _ g2) (hts _ (zIn_mem o1)) ⟨g3.1, g3.2, hnar⟩ hroom, o3, hts _ (zIn_mem o2)⟩ ⟨zPc_blind, zPc_of hKn hS hsz _⟩ rfl hAs hl.1 rfl (lv_room hrc) hd ⟨by omega, by omega⟩) kk'
      · obtain ⟨o1, o2, o3, -⟩ := hok
        have hf : en.1 = .invokestatic i := by
          rcases hform with ⟨-, q⟩ | ⟨q, -⟩ | ⟨-, q⟩ <;> first | exact q | omega
        exact hstat 3 (Or.inr rfl) h6 hf (hts _ (zIn_mem o2)) o3 (Or.inr (hKn.2.2.1 _ _ _ _ (zI0_mem o1)))
      · obtain ⟨o1, o2, o3, o4, o5, o6, -⟩ := hok
        obtain ⟨n, As, cc, ha, hcc1, hcc2, hAs, hst3, hnar⟩ := hobj (by omega) o5 o4
        have hf : en.1 = .invokespecial i := by
          rcases hform with ⟨-, q⟩ | ⟨-, q⟩ | ⟨q, -⟩ <;> first | exact q | omega
        rw [hf] at hd
        rw [ha] at hMet
        rw [hst3]
        exact z_back hS.2.2.2.2 (va_runIN hfix hMet ⟨va_cnB (N - 1) hts (zws_good hcalI) (by unfold zws; rw [o6]) rfl rfl (hKn.2.2.1 _ _ _ _ (zI0_mem o1)) (hts _ g2) ⟨g3.1, g3.2, hnar⟩ hroom, o3, hts _ (zIn_mem o2)⟩ ⟨zPc_blind, zPc_of hKn hS hsz _⟩ rfl hAs hl.1 rfl (lv_room hrc) hd ⟨by omega, by omega⟩) kk'
    · cases ho
  · cases ho
theorem z_nat {en : zE} {st' : List Value} {h' : XH} (F : zFx p R s m args meth c D cy b H0 xs mi n0) (hd : decode (zMb mi) pc = .ok (en.1, 3)) (hinv : xinv en.1 = true) (hlk : zLink (zMo mi) en = true) (h5 : ¬ en.2.2.1 < 5) (ho : xnat en.2.2.1 st h = some (st', h')) (hr1 : h'.length ≤ n0 + R.cells) (hr2 : zsl h' ≤ s0 + R.slots) (kk : zK p l e R s m args below meth c Q D cy b H0 (zMl mi) n0 s0 (pc + 3) L st' h') : zK p l e R s m args below meth c Q D cy b H0 (zMl mi) n0 s0 pc L st h := by
  obtain ⟨hx, hb, hml, hown, hmn, hts, hKn, hbl, hsz0, hfr, hlo⟩ := F
  have hlk' : ∃ i, zLkc (zMo mi) i en = true ∧ ((en.1 = .invokestatic i ∧ 6 ≤ en.2.2.1) ∨ (en.1 = .invokespecial i ∧ en.2.2.1 = 5)) := by
    cases he : en.1 <;> rw [he] at hinv <;> simp [xinv] at hinv
    all_goals (rename_i i; refine ⟨i, ?_⟩; unfold zLink at hlk; rw [he] at hlk; simp at hlk; refine ⟨hlk.1, ?_⟩; simp; omega)
  obtain ⟨i, hzl, hform⟩ := hlk'
  obtain ⟨host, pp, hok⟩ := zCl_use hzl
  obtain ⟨w1, w2, w3, w4, w5, w6, w7, w8, w9, w10, w11, w12⟩ := zNat_words
  obtain ⟨hm1, hm2⟩ := xnat_len' ho
  unfold zCok at hok
  unfold xnat at ho
  intro H locs ls cells slots hS hl hcc hss
  have hc1 : cells ≤ R.cells := by omega
  have hs1 : slots ≤ R.slots := by omega
  split at ho
  · rename_i h6
    rw [h6] at hok hform
    have hf : en.1 = .invokespecial i := by
      rcases hform with ⟨-, q⟩ | ⟨q, -⟩ <;> first | exact q | omega
    rw [hf] at hd
    split at ho
    · split at ho
      · rename_i n r hcat
        cases ho
        refine W.objInit hx hb hown (hts _ (zIn_mem hok)) (hts _ w1) (hts _ w2) rfl (by rw [hml]; exact hl.1) rfl hd (by omega) ?_ (kk H locs ls cells slots hS hl hcc hss)
        have hrc := z_cat (b := b) (b0 := H0.size) hcat
        show 2 * 0 + _ + 12 ≤ _
        omega
      · cases ho
    · cases ho
  · split at ho
    · rename_i h6
      rw [h6] at hok hform
      have hf : en.1 = .invokestatic i := by
        rcases hform with ⟨q, -⟩ | ⟨-, q⟩ <;> first | exact q | omega
      rw [hf] at hd
      split at ho
      · rename_i n dp q1 sp q0 r
        split at ho
        · rename_i hcat
          split at ho
          · rename_i cc hcc1
            split at ho
            · rename_i dd hdd1
              split at ho
              · rename_i h1 hcp
                cases ho
                unfold xcpy at hcp
                split at hcp
                · rename_i hcond
                  cases hcp
                  obtain ⟨k1, k2, k3, k4, k5, k6, k7⟩ := hcond
                  have he0 := zW_at0 (b := b) (b0 := H0.size) (cy := cy) hcc1
                  have he1 := zW_at0 (b := b) (b0 := H0.size) (cy := cy) hdd1
                  have hrc := z_cat (b := b) (b0 := H0.size) hcat
                  have hnw : nativeFrameWords "java/lang/System" "arraycopy" 5 = 7 := by decide
                  rcases k1 with k1 | k1
                  · rw [zEl_I k1] at he0
                    rw [zEl_I (k2.trans k1)] at he1
                    refine va_copyi hx hb (by rw [hml]; exact hl.1.symm) hown (hts _ (zIn_mem hok)) (hts _ w3) (hts _ w4) (hts _ w5) hKn.1 hS.1 hS.2.1 hS.2.2 q0 q1 0 0 he0 he1 rfl rfl rfl k3 k4 k5 k6 k7 (fun _ _ => rfl) (by omega) (by rw [hnw]; omega) hd (fun H1 locs1 hP hD hS1 => kk H1 locs1 ls cells slots (zSt_put ?_ hP hD hS1) hl (by simpa using hcc) (by rw [zsl_set hdd1]; exact hss))
                    rw [zEl_I (by exact k2.trans k1)]
                    congr 4
                    funext j
                    simp only [va_cpy]
                    split <;> rfl
                  · rw [zEl_J k1] at he0
                    rw [zEl_J (k2.trans k1)] at he1
                    refine va_copyl hx hb (by rw [hml]; exact hl.1.symm) hown (hts _ (zIn_mem hok)) (hts _ w3) (hts _ w4) (hts _ w5) hKn.1 hS.1 hS.2.1 hS.2.2 q0 q1 1 1 he0 he1 rfl rfl rfl k3 k4 k5 k6 k7 (fun _ _ => rfl) (by omega) (by rw [hnw]; omega) hd (fun H1 locs1 hP hD hS1 => kk H1 locs1 ls cells slots (zSt_put ?_ hP hD hS1) hl (by simpa using hcc) (by rw [zsl_set hdd1]; exact hss))
                    rw [zEl_J (by exact k2.trans k1)]
                    congr 5
                    funext j
                    simp only [va_cpy]
                    split <;> rfl
                · cases hcp
              · cases ho
            · cases ho
          · cases ho
        · cases ho
      · cases ho
    · split at ho
      · rename_i h6
        rw [h6] at hok hform
        have hf : en.1 = .invokestatic i := by
          rcases hform with ⟨q, -⟩ | ⟨-, q⟩ <;> first | exact q | omega
        rw [hf] at hd
        split at ho
        · split at ho
          · rename_i hcat
            cases ho
            have hrc := z_cat (b := b) (b0 := H0.size) hcat
            exact va_mmax hx hb (by rw [hml]; exact hl.1.symm) hown (hts _ (zIn_mem hok)) (hts _ w6) (hts _ w9) (hts _ w10) (by omega) (by omega) hc1 hs1 hd (kk H locs ls cells slots hS hl hcc hss)
          · cases ho
        · cases ho
      · split at ho
        · rename_i h6
          rw [h6] at hok hform
          have hf : en.1 = .invokestatic i := by
            rcases hform with ⟨q, -⟩ | ⟨-, q⟩ <;> first | exact q | omega
          rw [hf] at hd
          split at ho
          · split at ho
            · rename_i hcat
              cases ho
              have hrc := z_cat (b := b) (b0 := H0.size) hcat
              exact va_mmin hx hb (by rw [hml]; exact hl.1.symm) hown (hts _ (zIn_mem hok)) (hts _ w7) (hts _ w9) (hts _ w11) (by omega) (by omega) hc1 hs1 hd (kk H locs ls cells slots hS hl hcc hss)
            · cases ho
          · cases ho
        · split at ho
          · rename_i h6
            rw [h6] at hok hform
            have hf : en.1 = .invokestatic i := by
              rcases hform with ⟨q, -⟩ | ⟨-, q⟩ <;> first | exact q | omega
            rw [hf] at hd
            split at ho
            · split at ho
              · rename_i hcat
                cases ho
                have hrc := z_cat (b := b) (b0 := H0.size) hcat
                exact va_mabs hx hb (by rw [hml]; exact hl.1.symm) hown (hts _ (zIn_mem hok)) (hts _ w8) (hts _ w9) (hts _ w12) (by omega) (by omega) hc1 hs1 hd (kk H locs ls cells slots hS hl hcc hss)
              · cases ho
            · cases ho
          · cases ho
theorem z_hp {en : zE} {st' : List Value} {h' : XH} (F : zFx p R s m args meth c D cy b H0 xs mi n0) (hd : decode (zMb mi) pc = .ok (en.1, zLen en.1)) (hlk : zLink (zMo mi) en = true) (ho : xhp xs ((zMrow mi).2.1 == "<init>") (zMo mi) en st h = some (st', h')) (hr1 : h'.length ≤ n0 + R.cells) (hr2 : zsl h' ≤ s0 + R.slots) (kk : zK p l e R s m args below meth c Q D cy b H0 (zMl mi) n0 s0 (pc + zLen en.1) L st' h') : zK p l e R s m args below meth c Q D cy b H0 (zMl mi) n0 s0 pc L st h := by
  obtain ⟨i1, a1, a2, cst, pos⟩ := en
  dsimp only at hd kk
  cases i1
  case getfield i =>
    simp only [zLink, decide_eq_true_eq] at hlk
    simp only [xhp] at ho
    split at ho
    · split at ho
      · rename_i cc hcc1
        split at ho
        · rename_i hc
          cases ho; exact z_getf F hd hlk hcc1 hc.1 hc.2 kk
        · cases ho
      · cases ho
    · cases ho
  case putfield i =>
    simp only [zLink, decide_eq_true_eq] at hlk
    simp only [xhp] at ho
    split at ho
    · split at ho
      · rename_i cc hcc1
        split at ho
        · rename_i hc
          cases ho; exact z_putf F hd hlk hcc1 hc.1 hc.2.1 hc.2.2.1 hc.2.2.2 kk
        · cases ho
      · cases ho
    · cases ho
  case iaload =>
    simp only [xhp] at ho
    split at ho
    · split at ho
      · rename_i hc
        cases ho; exact z_sald F hd hc kk
      · cases ho
    · split at ho
      · rename_i cc hcc1
        split at ho
        · rename_i hc
          cases ho; exact z_iald F hd hcc1 hc.1 hc.2 kk
        · cases ho
      · cases ho
    · cases ho
  case baload =>
    simp only [xhp] at ho
    split at ho
    · split at ho
      · rename_i cc hcc1
        split at ho
        · rename_i hc
          cases ho; exact z_zald F hd hcc1 hc.1 hc.2 kk
        · cases ho
      · cases ho
    · cases ho
  case laload =>
    simp only [xhp] at ho
    split at ho
    · split at ho
      · rename_i cc hcc1
        split at ho
        · rename_i hc
          cases ho; exact z_lald F hd hcc1 hc.1 hc.2 kk
        · cases ho
      · cases ho
    · cases ho
  case aaload =>
    simp only [xhp] at ho
    split at ho
    · split at ho
      · rename_i cc hcc1
        split at ho
        · rename_i hc
          cases ho; exact z_aald F hd hcc1 hc.1 hc.2.1 hc.2.2 kk
        · cases ho
      · cases ho
    · cases ho
  case iastore =>
    simp only [xhp] at ho
    split at ho
    · split at ho
      · rename_i cc hcc1
        split at ho
        · rename_i hc
          cases ho; exact z_iast F hd hcc1 hc.1 hc.2 kk
        · cases ho
      · cases ho
    · cases ho
  case bastore =>
    simp only [xhp] at ho
    split at ho
    · split at ho
      · rename_i cc hcc1
        split at ho
        · rename_i hc
          cases ho; exact z_zast F hd hcc1 hc.1 hc.2 kk
        · cases ho
      · cases ho
    · cases ho
  case lastore =>
    simp only [xhp] at ho
    split at ho
    · split at ho
      · rename_i cc hcc1
        split at ho
        · rename_i hc
          cases ho; exact z_last F hd hcc1 hc.1 hc.2 kk
        · cases ho
      · cases ho
    · cases ho
  case aastore =>
    simp only [xhp] at ho
    split at ho
    · split at ho
      · rename_i cc hcc1
        split at ho
        · rename_i dd hdd1
          split at ho
          · rename_i hc
            cases ho; exact z_aast F hd hcc1 hdd1 hc.1 hc.2.1 hc.2.2.1 hc.2.2.2 kk
          · cases ho
        · cases ho
      · cases ho
    · cases ho
  case arraylength =>
    simp only [xhp] at ho
    split at ho
    · split at ho
      · cases ho
      · cases ho; exact z_slen F hd kk
    · split at ho
      · rename_i cc hcc1
        split at ho
        · rename_i hc
          cases ho; exact z_alen F hd hcc1 hc.1 hc.2 kk
        · cases ho
      · cases ho
    · cases ho
  case new i =>
    simp only [zLink, decide_eq_true_eq] at hlk
    simp only [xhp] at ho
    split at ho
    · rename_i cc hcc1
      cases ho
      exact z_new F hd hlk hcc1 (by simpa using hr1) (by rw [zsl_app] at hr2; exact hr2) kk
    · cases ho
  case newarray at_ =>
    simp only [xhp] at ho
    split at ho
    · rename_i n r
      split at ho
      · rename_i hc
        cases ho
        obtain ⟨hc1, hc2⟩ := hc
        obtain ⟨w1, w2, w3⟩ := zArr_words
        simp only [zLink] at hlk
        cases at_ <;> simp at hlk
        case int =>
          subst hlk
          exact z_newa (ty := .int) (t0 := 0) F hd rfl w1 hc1 hc2 (by decide) (fun N => Or.inl ⟨by rw [zEl_I rfl]; rfl, rfl⟩) rfl (fun _ => by simp) (by simpa using hr1) (by rw [zsl_app] at hr2; exact hr2) kk
        case long =>
          subst hlk
          exact z_newa (ty := .long) (t0 := 1) F hd rfl w2 hc1 hc2 (by decide) (fun N => Or.inr ⟨by rw [zEl_J rfl]; rfl, rfl⟩) rfl (fun _ => by simp) (by simpa using hr1) (by rw [zsl_app] at hr2; exact hr2) kk
        case boolean =>
          subst hlk
          exact z_newa (ty := .boolean) (t0 := 2) F hd rfl w3 hc1 hc2 (by decide) (fun N => Or.inl ⟨by rw [zEl_Z rfl]; rfl, rfl⟩) rfl (fun _ => by simp) (by simpa using hr1) (by rw [zsl_app] at hr2; exact hr2) kk
      · cases ho
    · cases ho
  case anewarray i =>
    simp only [zLink, decide_eq_true_eq] at hlk
    simp only [xhp] at ho
    split at ho
    · split at ho
      · rename_i hc
        cases ho
        exact z_anew F hd hlk hc.1 hc.2 (by simpa using hr1) (by rw [zsl_app] at hr2; exact hr2) kk
      · cases ho
    · cases ho
  case ldc i =>
    simp only [zLink, decide_eq_true_eq] at hlk
    simp only [xhp] at ho
    cases ho; exact z_ldc F hd hlk kk
  case ldc_w i =>
    simp only [zLink, decide_eq_true_eq] at hlk
    simp only [xhp] at ho
    cases ho; exact z_ldcw F hd hlk kk
  case ldc2_w i =>
    simp only [zLink, decide_eq_true_eq] at hlk
    simp only [xhp] at ho
    cases ho; exact z_ldc2 F hd hlk kk
  all_goals (exact absurd ho (by simp [xhp]))
end ZC
end
section
/-! runs of the small machine are the machine's -/
theorem zc_use {mi pc : Nat} {en : zE} (hck : zCk mi = true) (h : zc mi pc = some en) : zDec (zMb mi) pc en = true ∧ zLink (zMo mi) en = true := by
  unfold zc at h
  cases hl : zCs[mi]? with
  | none => rw [hl] at h; cases h
  | some ll =>
    rw [hl] at h
    simp only [Option.bind_some] at h
    have h1 : ll[pc]? = some (some en) := by
      cases hp : ll[pc]? with
      | none => rw [hp] at h; cases h
      | some x => rw [hp] at h; exact congrArg some h
    unfold zCk at hck
    rw [List.getD_eq_getElem?_getD, hl] at hck
    have := zChk_at hck h1
    rwa [Nat.zero_add] at this
theorem xsw_none {i : Instr} (hs : xsw i = true) : xinv i = false ∧ (∀ st, xop i st = none) ∧ (∀ L, xld i L = none) ∧ (∀ n L st, xst n i L st = none) ∧ ∀ ret st, xrt ret i st = none := by
  cases i <;> simp [xsw] at hs <;> exact ⟨rfl, fun _ => rfl, fun _ => rfl, fun _ _ _ => rfl, fun _ _ => rfl⟩
theorem xsw_hp {en : zE} (hs : xsw en.1 = true) (xs : Nat × (Nat → Int32)) (ini : Bool) (o : Nat) (st : List Value) (h : XH) : xhp xs ini o en st h = none := by
  obtain ⟨i, r⟩ := en
  cases i <;> simp [xsw] at hs <;> rfl
theorem zcal_lt {o : Nat} {en : zE} (hlk : zLink o en = true) (hinv : xinv en.1 = true) (h5 : en.2.2.1 < 5) : en.2.1 < zLawI := by
  have hlk' : ∃ i, zLkc o i en = true := by
    cases he : en.1 <;> rw [he] at hinv <;> simp [xinv] at hinv
    all_goals (rename_i i; refine ⟨i, ?_⟩; unfold zLink at hlk; rw [he] at hlk; simp at hlk; exact hlk.1)
  obtain ⟨i, hzl⟩ := hlk'
  obtain ⟨host, pp, hok⟩ := zCl_use hzl
  unfold zCok at hok
  rcases (show en.2.2.1 = 0 ∨ en.2.2.1 = 1 ∨ en.2.2.1 = 2 ∨ en.2.2.1 = 3 ∨ en.2.2.1 = 4 by omega) with h6 | h6 | h6 | h6 | h6 <;> rw [h6] at hok <;> simp only [Bool.and_eq_true, decide_eq_true_eq] at hok
  · exact hok.2.2.2.2.2
  · exact hok.2.2.2
  · exact hok.2.2.2.2.2.2
  · exact hok.2.2.2
  · exact hok.2.2.2.2.2.2
/-- cells come, none goes -/
def zLe (h h' : XH) : Prop := h.length ≤ h'.length ∧ zsl h ≤ zsl h'
theorem zLe.rf {h : XH} : zLe h h := ⟨Nat.le_refl _, Nat.le_refl _⟩
theorem zLe.tr {a b d : XH} (h1 : zLe a b) (h2 : zLe b d) : zLe a d := ⟨Nat.le_trans h1.1 h2.1, Nat.le_trans h1.2 h2.2⟩
theorem zLe.set {h : XH} {n : Nat} {c : XC} {f : Nat → Value} (hn : h[n]? = some c) : zLe h (h.set n (c.1, c.2.1, f)) := ⟨by simp, by rw [zsl_set hn]; exact Nat.le_refl _⟩
theorem zLe.app {h : XH} {c : XC} : zLe h (h ++ [c]) := ⟨by simp, by rw [zsl_app]; exact Nat.le_add_right _ _⟩
theorem xhp_le {xs : Nat × (Nat → Int32)} {ini : Bool} {o : Nat} {en : zE} {st st' : List Value} {h h' : XH} (ho : xhp xs ini o en st h = some (st', h')) : zLe h h' := by
  unfold xhp at ho
  repeat' split at ho
  all_goals first
    | (cases ho; done)
    | (cases ho; exact zLe.rf)
    | (cases ho; exact zLe.app)
    | (cases ho; exact zLe.set (by assumption))
def zMono (call : XF) : Prop := ∀ (cal : Nat) (a : List Value) (h : XH) (v : Option Value) (h' : XH), cal < zLawI → call cal a h = some (v, h') → zLe h h'
theorem xcall_le {call : XF} {o : Nat} {en : zE} {st st' : List Value} {h h' : XH} (hm : zMono call) (hlk : zLink o en = true) (hinv : xinv en.1 = true) (h5 : en.2.2.1 < 5) (ho : xcall call en st h = some (st', h')) : zLe h h' := by
  simp only [xcall] at ho
  split at ho
  · split at ho
    · rename_i hcl
      cases ho
      exact hm _ _ _ _ _ (zcal_lt hlk hinv h5) hcl
    · cases ho
  · cases ho
theorem xone_le {xs : Nat × (Nat → Int32)} {call : XF} {mi pc : Nat} {L : XL} {st : List Value} {h : XH} (hck : zCk mi = true) (hm : zMono call) : (∀ s', xone xs call mi pc L st h = some (.inl s') → zLe h s'.2.2.2) ∧ ∀ r, xone xs call mi pc L st h = some (.inr r) → r.2 = h := by
  unfold xone
  split
  · exact ⟨fun _ q => (by cases q), fun _ q => (by cases q)⟩
  · rename_i en hen
    obtain ⟨hdc, hlk⟩ := zc_use hck hen
    split
    · rename_i hinv
      split
      · rename_i h5
        split
        · rename_i st' h' hx2
          exact ⟨fun _ q => by cases q; exact xcall_le hm hlk hinv h5 hx2, fun _ q => by cases q⟩
        · exact ⟨fun _ q => (by cases q), fun _ q => (by cases q)⟩
      · split
        · rename_i st' h' hx2
          exact ⟨fun _ q => by cases q; exact xnat_len' hx2, fun _ q => by cases q⟩
        · exact ⟨fun _ q => (by cases q), fun _ q => (by cases q)⟩
    · split
      · exact ⟨fun _ q => by cases q; exact zLe.rf, fun _ q => by cases q⟩
      · split
        · exact ⟨fun _ q => by cases q; exact zLe.rf, fun _ q => by cases q⟩
        · split
          · exact ⟨fun _ q => by cases q; exact zLe.rf, fun _ q => by cases q⟩
          · split
            · exact ⟨fun _ q => by cases q; exact zLe.rf, fun _ q => by cases q⟩
            · split
              · rename_i hx2
                exact ⟨fun _ q => by cases q; exact xhp_le hx2, fun _ q => by cases q⟩
              · split
                · exact ⟨fun _ q => (by cases q), fun _ q => by cases q; rfl⟩
                · exact ⟨fun _ q => (by cases q), fun _ q => (by cases q)⟩
theorem xgo_le {xs : Nat × (Nat → Int32)} {call : XF} {mi : Nat} (hck : zCk mi = true) (hm : zMono call) : ∀ (n pc : Nat) (L : XL) (st : List Value) (h : XH) (v : Option Value) (h' : XH), xgo xs call mi n pc L st h = some (v, h') → zLe h h' := by
  intro n
  induction n with
  | zero => intro pc L st h v h' q; cases q
  | succ n ih =>
    intro pc L st h v h' q
    simp only [xgo] at q
    split at q
    · rename_i s' hs
      exact ((xone_le hck hm).1 _ hs).tr (ih _ _ _ _ _ _ q)
    · rename_i r hs
      cases q
      rw [show h' = h from (xone_le hck hm).2 _ hs]
      exact zLe.rf
    · cases q
theorem xrun_le {xs : Nat × (Nat → Int32)} {n : Nat} (hck : ∀ m, m < zLawI → zCk m = true) : ∀ d, zMono (xrun xs n d) := by
  intro d
  induction d with
  | zero => intro cal a h v h' _ q; cases q
  | succ d ih =>
    intro cal a h v h' hl q
    simp only [xrun] at q
    split at q
    · exact xgo_le (hck cal hl) ih _ _ _ _ _ _ _ q
    · cases q
section ZO
variable {p : Program} {l : Launch} {e : Env} {R : Room} {s : State} {m : MethodId} {args : Array Value} {below : List Frame} {meth : Method} {c : Code} {Q : State → Prop}
variable {D : va_G} {cy : Nat → ClassId} {b : Nat} {H0 : Heap} {xs : Nat × (Nat → Int32)} {mi n0 s0 pc : Nat} {L : XL} {st : List Value} {h : XH}
theorem z_ret {i : Instr} {v : Option Value} {H : Heap} {locs : List Loc} {ls : Array Slot} {cells slots : Nat} (F : zFx p R s m args meth c D cy b H0 xs mi n0) (hr : meth.sig.returnType = zMr mi) (hlocks : meth.locks = false) (hd : decode (zMb mi) pc = .ok (i, zLen i)) (ho : xrt (zMr mi) i st = some v) (S : zSt D cy b H0 h H locs) : W p l e R s m args below meth c H locs cells slots (MQ below (zQc D cy b H0 v h) args s cells slots (zA H0)) (F0 m pc ls (st.map (zcv b H0.size))) := by
  obtain ⟨hx, hb, hml, hown, hmn, hts, hKn, hbl, hsz0, hfr, hlo⟩ := F
  have hS' : ∀ t : State, t.heap = H → zSt D cy b H0 h t.heap [] := fun t ht => by rw [ht]; exact ⟨S.1, S.2.1, S.2.2.1, S.2.2.2.1, fun _ q => by cases q⟩
  cases i
  case ireturn =>
    simp only [xrt] at ho
    split at ho
    · split at ho
      · rename_i hc
        cases ho
        rcases hc with hc | ⟨hc, hv⟩
        · exact W.iret hx hb (hr.trans hc) (fun t ht _ => ⟨rfl, hS' t ht⟩) S.2.2.2.2 hd hlocks
        · exact W.zret hx hb (hr.trans hc) (by rcases hv with rfl | rfl <;> rfl) (fun t ht _ => ⟨rfl, hS' t ht⟩) S.2.2.2.2 hd hlocks
      · cases ho
    · cases ho
  case lreturn =>
    simp only [xrt] at ho
    split at ho
    · split at ho
      · rename_i hc
        cases ho
        exact W.lret hx hb (hr.trans hc) (fun t ht _ => ⟨rfl, hS' t ht⟩) S.2.2.2.2 hd hlocks
      · cases ho
    · cases ho
  case areturn =>
    simp only [xrt] at ho
    split at ho
    · split at ho
      · rename_i hc
        cases ho
        exact W.aret hx hb (hr.trans hc) (Or.inl ⟨_, rfl⟩) (Or.inr ⟨_, rfl⟩) (fun t ht _ => ⟨rfl, hS' t ht⟩) S.2.2.2.2 hd hlocks
      · cases ho
    · cases ho
  case return_ =>
    simp only [xrt] at ho
    split at ho
    · split at ho
      · rename_i hc
        cases ho
        exact W.vret hx hb (hr.trans hc) (fun t ht _ => ⟨rfl, hS' t ht⟩) S.2.2.2.2 hd hlocks
      · cases ho
    · cases ho
  all_goals (exact absurd ho (by simp [xrt]))
theorem z_one {d : Nat} {call : XF} {s' : XS} (F : zFx p R s m args meth c D cy b H0 xs mi n0) (hck : zCk mi = true) (hcal : zCal l D cy b H0 xs d call) (hR : d + 3 ≤ R.frames ∧ 48 * (d + 3) ≤ R.locals) (ho : xone xs call mi pc L st h = some (.inl s')) (hr1 : s'.2.2.2.length ≤ n0 + R.cells) (hr2 : zsl s'.2.2.2 ≤ s0 + R.slots) (kk : zK p l e R s m args below meth c Q D cy b H0 (zMl mi) n0 s0 s'.1 s'.2.1 s'.2.2.1 s'.2.2.2) : zK p l e R s m args below meth c Q D cy b H0 (zMl mi) n0 s0 pc L st h := by
  unfold xone at ho
  split at ho
  · cases ho
  · rename_i en hen
    obtain ⟨hdc, hlk⟩ := zc_use hck hen
    obtain ⟨n, hd, hn, hbr⟩ := zDec_use hdc
    split at ho
    · rename_i hinv
      have h3 : n = 3 := by
        have hsw : xsw en.1 = false := by
          cases hs : xsw en.1 with
          | false => rfl
          | true => rw [(xsw_none hs).1] at hinv; cases hinv
        rw [hn hsw]
        cases he : en.1 <;> rw [he] at hinv <;> simp [xinv] at hinv <;> rfl
      subst h3
      split at ho
      · rename_i h5
        split at ho
        · rename_i st' h' hx2
          cases ho
          exact z_call F hcal hR hd hinv hlk h5 hx2 hr1 hr2 kk
        · cases ho
      · rename_i h5
        split at ho
        · rename_i st' h' hx2
          cases ho
          exact z_nat F hd hinv hlk h5 hx2 hr1 hr2 kk
        · cases ho
    · cases hs : xsw en.1 with
      | true =>
        obtain ⟨-, q1, q2, q3, q4⟩ := xsw_none hs
        rw [q1] at ho
        simp only [q2, q3, xsw_hp hs, q4] at ho
        split at ho
        · rename_i hx2
          cases ho
          exact z_br F hd hbr hx2 kk
        · cases ho
      | false =>
        have hd' : decode (zMb mi) pc = .ok (en.1, zLen en.1) := by rw [← hn hs]; exact hd
        split at ho
        · rename_i hx2
          cases ho
          exact z_op F hd' hx2 kk
        · split at ho
          · rename_i hx2
            cases ho
            exact z_ld F hd' hx2 kk
          · split at ho
            · rename_i hx2
              cases ho
              exact z_st F hd' hx2 kk
            · split at ho
              · rename_i hx2
                cases ho
                exact z_br F hd hbr hx2 kk
              · split at ho
                · rename_i hx2
                  cases ho
                  exact z_hp F hd' hlk hx2 hr1 hr2 kk
                · split at ho
                  · cases ho
                  · cases ho
theorem z_out {call : XF} {v : Option Value} {h' : XH} (hck : zCk mi = true) (ho : xone xs call mi pc L st h = some (.inr (v, h'))) : h' = h ∧ ∃ i, decode (zMb mi) pc = .ok (i, zLen i) ∧ xrt (zMr mi) i st = some v := by
  unfold xone at ho
  split at ho
  · cases ho
  · rename_i en hen
    obtain ⟨hdc, hlk⟩ := zc_use hck hen
    obtain ⟨n, hd, hn, hbr⟩ := zDec_use hdc
    split at ho
    · split at ho
      · split at ho <;> cases ho
      · split at ho <;> cases ho
    · split at ho
      · cases ho
      · split at ho
        · cases ho
        · split at ho
          · cases ho
          · split at ho
            · cases ho
            · split at ho
              · cases ho
              · split at ho
                · rename_i hx2
                  cases ho
                  refine ⟨rfl, en.1, ?_, hx2⟩
                  cases hs : xsw en.1 with
                  | true => rw [(xsw_none hs).2.2.2.2] at hx2; cases hx2
                  | false => rw [← hn hs]; exact hd
                · cases ho
theorem z_go {d : Nat} {call : XF} (F : zFx p R s m args meth c D cy b H0 xs mi n0) (hck : zCk mi = true) (hcal : zCal l D cy b H0 xs d call) (hR : d + 3 ≤ R.frames ∧ 48 * (d + 3) ≤ R.locals) {v : Option Value} {h' : XH} (hr1 : h'.length ≤ n0 + R.cells) (hr2 : zsl h' ≤ s0 + R.slots)
    (hend : ∀ (pc : Nat) (i : Instr) (L : XL) (st : List Value), decode (zMb mi) pc = .ok (i, zLen i) → xrt (zMr mi) i st = some v → zK p l e R s m args below meth c Q D cy b H0 (zMl mi) n0 s0 pc L st h') : ∀ (n pc : Nat) (L : XL) (st : List Value) (h : XH), xgo xs call mi n pc L st h = some (v, h') → zK p l e R s m args below meth c Q D cy b H0 (zMl mi) n0 s0 pc L st h := by
  have hm : zMono call := fun cal a h v h' hl q => ⟨(hcal cal a h v h' hl q).1, (hcal cal a h v h' hl q).2.1⟩
  intro n
  induction n with
  | zero => intro pc L st h q; cases q
  | succ n ih =>
    intro pc L st h q
    simp only [xgo] at q
    split at q
    · rename_i s' hs
      have hle := xgo_le hck hm _ _ _ _ _ _ _ q
      exact z_one F hck hcal hR hs (Nat.le_trans hle.1 hr1) (Nat.le_trans hle.2 hr2) (ih _ _ _ _ q)
    · rename_i r hs
      cases q
      obtain ⟨rfl, i, hd, hx2⟩ := z_out hck hs
      exact hend pc i L st hd hx2
    · cases q
end ZO
theorem zent_args {b b0 : Nat} : ∀ (a : List Value) (k : Nat), zLs b b0 (xent k a) = lv_args k (a.map (zcv b b0)) := by
  intro a
  induction a with
  | nil => intro k; rfl
  | cons v t ih =>
    intro k
    show (k, zcv b b0 v) :: zLs b b0 (xent (k + v.category) t) = (k, zcv b b0 v) :: lv_args (if (zcv b b0 v).category = 2 then k + 2 else k + 1) (t.map (zcv b b0))
    rw [ih, zcv_cat]
    rcases lv_cat v with h1 | h1 <;> rw [h1] <;> rfl
theorem zsl_args {b b0 : Nat} : ∀ (a : List Value), (lg_sl (a.map (zcv b b0))).length = (lg_sl a).length := by
  intro a
  induction a with
  | nil => rfl
  | cons v t ih =>
    simp only [lg_sl, List.map_cons, List.flatMap_cons, List.length_append] at ih ⊢
    rw [ih, zcv_cat]
    split <;> rfl
/-- the runs, deep and deeper -/
theorem z_run (l : Launch) (D : va_G) (cy : Nat → ClassId) (b : Nat) (H0 : Heap) (xs : Nat × (Nat → Int32)) (n : Nat) (hbl : b < H0.size) (hck : ∀ m, m < zLawI → zCk m = true) : ∀ d, zCal l D cy b H0 xs d (xrun xs n d) := by
  intro d
  induction d with
  | zero => intro cal a h v h' _ q; cases q
  | succ d ih =>
    intro cal a h v h' hl q
    have hle := xrun_le hck (d + 1) cal a h v h' hl q
    refine ⟨hle.1, hle.2, ?_⟩
    simp only [xrun] at q
    split at q
    · rename_i hlen
      refine Met.ofW (cc := zMb cal) (maxL := zMl cal) (ret := zMr cal) (zMck_use hl).2.2.2.2 rfl ?_
      intro p e s m args below meth c s₁ B hml hv
      obtain ⟨rfl, hsz, hS, hKn⟩ := hv
      have hts0 := atoms_spec (ws := zws cal) B.pre
      have hown : s.vm.findClass (zMn cal) = some m.cls := findClass_of_methodNamed B.named
      have hnm : meth.name = (zMrow cal).2.1 := (name_of_methodNamed B.named B.method).1
      have F : zFx p (headSpec (zws cal) (zrm (d + 1) (h'.length - h.length) (zsl h' - zsl h))).room s m (a.map (zcv b H0.size)).toArray meth c D cy b H0 xs cal h.length :=
        ⟨B.exec, B.bytes, hml, hown, fun hq => by rw [hnm]; exact eq_of_beq hq, fun w hw => hts0 w (List.mem_cons_of_mem _ hw), hKn, hbl, hsz, by show 2 ≤ d + 1 + 2; omega, by show 80 ≤ 48 * (d + 1 + 2); omega⟩
      have hle1 := hle.1
      have hle2 := hle.2
      have K := z_go (below := below) (e := e) (Q := MQ below (zQc D cy b H0 v h') (a.map (zcv b H0.size)).toArray s (h'.length - h.length) (zsl h' - zsl h) (zA H0)) (l := l) (n0 := h.length) (s0 := zsl h) F (hck cal hl) ih ⟨by show d + 3 ≤ d + 1 + 2; omega, by show 48 * (d + 3) ≤ 48 * (d + 1 + 2); omega⟩ (v := v) (h' := h') (by show h'.length ≤ h.length + (h'.length - h.length); omega) (by show zsl h' ≤ zsl h + (zsl h' - zsl h); omega)
        (fun pc i L st hd hx2 => by
          intro H locs ls cells slots S hl2 hcc hss
          obtain rfl : cells = h'.length - h.length := by omega
          obtain rfl : slots = zsl h' - zsl h := by omega
          exact z_ret F B.returns B.notSynchronized hd hx2 S) n 0 (xent 0 a) [] h q
      rw [lg_entry_eq]
      refine K s.heap [] _ 0 0 hS ?_ (by omega) (by omega)
      rw [zent_args]
      exact lv_entry _ (by rw [zsl_args]; exact hlen)
    · cases q
end
section
def R_law : String := "WaterCityLaw"
def lw_P (b : Addr) (xs : List Int32) (args : Array Value) (s : State) : Prop := args = #[.ref b] ∧ s.IntsAt b xs ∧ xs.length ≤ 6 ∧ (Jvm.Cond.and given_1 narrow_1).before args s = true
def lw_Q (_ : Array Value) (s : State) (o : Outcome) (t : State) : Prop := o = .returned (some (.int 1)) ∧ Framed s o t [] 600000 7302250
def lw_Z (below : List Frame) (a : Array Value) (s : State) : State → Prop := fun t => ∃ o, t.status = .running ∧ Ended t below o ∧ lw_Q a s o t
/-- the law's own end, with 1 on the stack, nothing written that was there before, its room as the claim has it -/
theorem lw_ret {p : Program} {l : Launch} {e : Env} {s : State} {m : MethodId} {below : List Frame} {meth : Method} {c : Code} {b : Nat} (hx : p.tables.exec = Jvm.exec) (hb : c.code = code) (hr : meth.sig.returnType = ret) (hlocks : meth.locks = false) {pc : Nat} {H : Heap} {ls : Array Slot} (hdg : decode code pc = .ok (.ireturn, 1)) : W p l e room_1 s m #[Value.ref b] below meth c H [] 600000 7302250 (lw_Z below #[Value.ref b] s) (F0 m pc ls [.int 1]) := by
  intro T hT X
  obtain ⟨fs, hret, hrun, hended, hW, hframe⟩ := X.leave (v := some (.int 1)) (hlocks := hlocks) (fun h => by rw [hr] at h; cases h)
  have hmeth' : T.vm.method? m = some meth := X.method'
  refine ⟨T.setFrames fs, ?_, .returned (some (.int 1)), hrun, hended, rfl, ⟨_, rfl⟩, hW, hframe⟩
  jvm_step X.here [X.here.top, hx, hb, hdg, hmeth', hr, ret, narrow_b1]
  (try refine ⟨rfl, ?_⟩); (try refine ⟨rfl, ?_⟩)
  first | (intro acts; rw [hret _ acts rfl rfl rfl]) | rw [hret _ _ rfl rfl rfl]
  exact Steps.refl _
/-- what holds at the law's entry: the machine, the code, the tables' words (any of lw_tbl by 'hts w (by decide +kernel)'), the script of L ints xs at the cell b, what the Statement gives of the start (any of its parts by flat_of_before) -/
def lw_At (p : Program) (s : State) (m : MethodId) (meth : Method) (c : Code) (b L : Nat) (xs : Nat → Int32) : Prop :=
  p.tables.exec = Jvm.exec ∧ c.code = code ∧ meth.sig.returnType = ret ∧ c.maxLocals = 4 ∧ s.vm.findClass R_law = some m.cls ∧ (∀ w ∈ lw_tbl, w.before #[Value.ref b] s = true) ∧ va_X b L xs s s.heap ∧ b < s.heap.size ∧ meth.locks = false ∧ (Jvm.Cond.and given_1 narrow_1).before #[Value.ref b] s = true
/-! the law's body out of a run of the small machine -/
theorem z_class {s : State} {args : Array Value} (hts : ∀ w ∈ lw_tbl, w.before args s = true) : ∃ D : va_G, ∀ (ci : Nat) (q : vw_C), vwCl[ci]? = some q → u_Kn s q.1 q.2.1 q.2.2 (D.1 ci) (D.2 ci) := by
  have h : ∀ ci : Nat, ∃ x : ClassId × (Nat → Nat), ∀ q : vw_C, vwCl[ci]? = some q → u_Kn s q.1 q.2.1 q.2.2 x.1 x.2 := by
    intro ci
    cases hq : vwCl[ci]? with
    | none => exact ⟨(0, fun _ => 0), fun q h => by cases h⟩
    | some q =>
      obtain ⟨h12, hin, hty, hdc, hft, hnm, hlen, hins, -⟩ := zCls_use hq
      obtain ⟨cC, iS, hK⟩ := u_known (ws := zWd) (fun w hw => hts w (List.mem_filter.mp hw).1) hin (hts _ (List.mem_filter.mp hins).1)
      exact ⟨(cC, iS), fun q' h => by cases h; exact hK⟩
  exact ⟨(fun ci => (Classical.choose (h ci)).1, fun ci => (Classical.choose (h ci)).2), fun ci => Classical.choose_spec (h ci)⟩
theorem z_arr {s : State} {args : Array Value} {ty : FieldType} (hob : ∀ C, ty ≠ .object C) (h : (Cond.arrayClass ty).before args s = true) : ∃ cA : ClassId, ArrOfT s cA ty ∧ va_RA s cA ty := by
  obtain ⟨cA, kA, comp, h1, h2, h3⟩ := Cond.arrayClass_spec h
  refine ⟨cA, fun n z => ⟨fun k h => (by cases h), kA, h2, comp, h3⟩, ?_⟩
  cases ty <;> first | exact h1 | exact absurd rfl (hob _)
theorem z_arq {s : State} {args : Array Value} {C : String} (h : (Cond.arrayOver (.object C)).before args s = true) : ∃ cA : ClassId, ArrOfT s cA (.object C) ∧ va_RA s cA (.object C) := by
  obtain ⟨comp, cA, kA, h1, -, h2, h3, h4⟩ := Cond.arrayOver_spec h
  exact ⟨cA, fun n z => ⟨fun k h => (by cases h), kA, h2, comp, h3⟩, kA, comp, h2, h3, h1, h4⟩
theorem zOver : ∀ k, 15 ≤ k → k ≤ 18 → Cond.arrayOver (.object (zNm (zAe k))) ∈ lw_tbl := by
  intro k h1 h2
  rcases (show k = 15 ∨ k = 16 ∨ k = 17 ∨ k = 18 by omega) with rfl | rfl | rfl | rfl <;> decide +kernel
theorem xrt_int {ret : Option FieldType} {i : Instr} {st : List Value} (h : xrt ret i st = some (some (.int 1))) : i = .ireturn ∧ st = [.int 1] := by
  unfold xrt at h
  repeat' split at h
  all_goals first | (cases h; done) | (cases h; exact ⟨rfl, rfl⟩)
theorem z_start {p : Program} {e : Env} {s : State} {m : MethodId} {below : List Frame} {meth : Method} {c : Code} (l : Launch) {b L : Nat} {xs : Nat → Int32} (C0 : lw_At p s m meth c b L xs) {n d : Nat} {h' : XH} (hck : ∀ m, m < zLawI + 1 → zCk m = true) (hdd : d ≤ 1700)
    (hrun : xgo (L + 1, xs) (xrun (L + 1, xs) n d) zLawI n 0 [(0, .ref 0)] [] [] = some (some (.int 1), h')) (hlen : h'.length ≤ 600000) (hsl : zsl h' ≤ 7302250) : W p l e room_1 s m #[Value.ref b] below meth c s.heap [] 0 0 (lw_Z below #[Value.ref b] s) (entryFrame m ([Value.ref b] : List Value).toArray 4) := by
  obtain ⟨hx, hb, hr, hml, hown, hts, hX, hbl, hlocks, -⟩ := C0
  obtain ⟨D, hD⟩ := z_class hts
  obtain ⟨w1, w2, w3⟩ := zArr_words
  obtain ⟨c12, a12⟩ := z_arr (by intro C h; cases h) (hts _ (List.mem_filter.mp w1).1)
  obtain ⟨c13, a13⟩ := z_arr (by intro C h; cases h) (hts _ (List.mem_filter.mp w2).1)
  obtain ⟨c14, a14⟩ := z_arr (by intro C h; cases h) (hts _ (List.mem_filter.mp w3).1)
  obtain ⟨c15, a15⟩ := z_arq (hts _ (zOver 15 (by omega) (by omega)))
  obtain ⟨c16, a16⟩ := z_arq (hts _ (zOver 16 (by omega) (by omega)))
  obtain ⟨c17, a17⟩ := z_arq (hts _ (zOver 17 (by omega) (by omega)))
  obtain ⟨c18, a18⟩ := z_arq (hts _ (zOver 18 (by omega) (by omega)))
  let cy : Nat → ClassId := fun k => if k = 12 then c12 else if k = 13 then c13 else if k = 14 then c14 else if k = 15 then c15 else if k = 16 then c16 else if k = 17 then c17 else c18
  have hKn : zKn D cy b s.heap (L + 1, xs) s := by
    refine ⟨⟨hD, ?_⟩, hX, fun a i x h hw => va_Nw.of rfl (hts _ hw), fun C hw => va_AO.of (hts _ hw)⟩
    intro k q hq
    have hk : k < 7 := (List.getElem?_eq_some_iff.mp hq).1
    rcases (show k = 0 ∨ k = 1 ∨ k = 2 ∨ k = 3 ∨ k = 4 ∨ k = 5 ∨ k = 6 by omega) with rfl | rfl | rfl | rfl | rfl | rfl | rfl <;> cases hq
    · exact a12
    · exact a13
    · exact a14
    · exact a15
    · exact a16
    · exact a17
    · exact a18
  have F : zFx p room_1 s m #[Value.ref b] meth c D cy b s.heap (L + 1, xs) zLawI 0 :=
    ⟨hx, hb, hml, hown, fun hq => (by rw [show ((zMrow zLawI).2.1 == "<init>") = false by decide +kernel] at hq; cases hq), fun w hw => hts w (List.mem_filter.mp hw).1, hKn, hbl, rfl, by decide, by decide⟩
  have K := z_go (below := below) (e := e) (Q := lw_Z below #[Value.ref b] s) (l := l) (n0 := 0) (s0 := 0) F (hck zLawI (Nat.lt_succ_self _)) (z_run l D cy b s.heap (L + 1, xs) n hbl (fun m hm => hck m (Nat.lt_succ_of_lt hm)) d) ⟨by show d + 3 ≤ 2048; omega, by show 48 * (d + 3) ≤ 84000; omega⟩ (v := some (.int 1)) (h' := h') (by show h'.length ≤ 0 + 600000; omega) (by show zsl h' ≤ 0 + 7302250; omega)
    (fun pc i L st hd hx2 => by
      intro H locs ls cells slots S hl2 hcc hss
      have hi := xrt_int hx2
      obtain ⟨rfl, rfl⟩ := hi
      refine W.widen (k := 600000) (n := 7302250) (by omega) (by omega) ?_
      refine va_forget S.2.2.2.2 ?_
      exact lw_ret hx hb hr hlocks hd) n 0 [(0, .ref 0)] [] [] hrun
  rw [lg_entry_eq]
  refine K s.heap [] _ 0 0 ⟨fun k q hq => by simp [zW] at hq, ⟨fun i j p q hp => by simp [zW] at hp, fun k q hq => by simp [zW] at hq⟩, va_S.rf⟩ ?_ rfl rfl
  exact lv_entry [Value.ref b] (Nat.le_of_ble_eq_true rfl)
end
section
/-! where the cells lie behind both constructors: a cell is a tag, a city or 0, a number of its kind; tables by program -/
-- 0 WC, 1 City, 2 Lagoon, 3 depth, 4 level, 5 wall, 6 ran, 7 bridge, 8 closed, 9 narrow, 10 levelBefore, 11 Mouths, 12 mcells, 13 mshut, 14 laws, 15 houses, 16 boats, 17 Tide, 18 heights, 19 Chart, 20 beside, 21 fields, 22 crossed, 23 Law, 24 lcode, 25 House, 26 Boat, 27 shelves, 28 refusals, 29 Reader, 30 draft, 31 dcode, 32 letters, 33 Shelf, 34 elements, 35 Model, 36 S, 37 M_shelf, 38 M_sort, 39 M_size, 40 M_shown, 41 M_cells, 42 M_carried, 43 M_lawMouth, 44 M_lawCode, 45 M_code, 46 M_field, 47 M_sign, 48 M_number, 49 M_refused, 50 M_ops, 51 M_worths, 52 M_far, 53 M_queue, 54 M_flow, 55 M_went, 56 M_imageMouth, 57 M_imageCode, 58 M_imageProgram, 59 M_imageField, 60 M_imageSign, 61 M_imageNumber
/-- kind, first place, stride and number of cities, stride and number of its kind, length -/
def tTab : List (Nat × Nat × Nat × Nat × Nat × Nat × Nat) := [(10, 0, 0, 1, 0, 1, 8), (2, 1, 52, 3, 0, 1, 20), (4, 2, 52, 3, 0, 1, 8), (12, 3, 52, 3, 0, 1, 25), (12, 4, 52, 3, 0, 1, 25), (12, 5, 52, 3, 0, 1, 25), (12, 6, 52, 3, 0, 1, 25), (12, 7, 52, 3, 0, 1, 40), (14, 8, 52, 3, 0, 1, 40), (14, 9, 52, 3, 0, 1, 40), (12, 10, 52, 3, 0, 1, 25), (7, 11, 52, 3, 0, 1, 3), (12, 12, 52, 3, 0, 1, 3), (14, 13, 52, 3, 0, 1, 3), (17, 14, 52, 3, 0, 1, 5), (16, 15, 52, 3, 0, 1, 12), (15, 16, 52, 3, 0, 1, 6), (9, 17, 52, 3, 2, 2, 2), (12, 18, 52, 3, 2, 2, 96), (1, 21, 52, 3, 0, 1, 1), (12, 22, 52, 3, 0, 1, 25), (12, 23, 52, 3, 0, 1, 6), (14, 24, 52, 3, 0, 1, 40), (5, 25, 52, 3, 2, 5, 4), (12, 26, 52, 3, 2, 5, 96), (3, 35, 52, 3, 1, 12, 10), (0, 47, 52, 3, 1, 6, 10), (18, 157, 0, 1, 0, 1, 8), (12, 158, 0, 1, 0, 1, 8), (6, 159, 0, 1, 0, 1, 4), (5, 160, 0, 1, 0, 1, 4), (12, 161, 0, 1, 0, 1, 96), (12, 162, 0, 1, 0, 1, 96), (8, 163, 0, 1, 2, 8, 5), (13, 164, 0, 1, 2, 8, 96), (11, 179, 0, 1, 0, 1, 40), (12, 180, 0, 1, 1, 3, 646), (12, 183, 0, 1, 0, 1, 8), (12, 184, 0, 1, 0, 1, 8), (12, 185, 0, 1, 0, 1, 8), (12, 186, 0, 1, 0, 1, 8), (13, 187, 0, 1, 0, 1, 768), (13, 188, 0, 1, 0, 1, 96), (12, 189, 0, 1, 0, 1, 6), (12, 190, 0, 1, 0, 1, 6), (12, 191, 0, 1, 0, 1, 720), (12, 192, 0, 1, 0, 1, 300), (12, 193, 0, 1, 0, 1, 300), (12, 194, 0, 1, 0, 1, 300), (12, 195, 0, 1, 0, 1, 8), (12, 196, 0, 1, 0, 1, 120), (12, 197, 0, 1, 0, 1, 60), (12, 198, 0, 1, 0, 1, 25), (12, 199, 0, 1, 0, 1, 25), (12, 200, 0, 1, 0, 1, 25), (12, 201, 0, 1, 0, 1, 50), (12, 202, 0, 1, 0, 1, 5), (12, 203, 0, 1, 0, 1, 5), (12, 204, 0, 1, 0, 1, 600), (12, 205, 0, 1, 0, 1, 250), (12, 206, 0, 1, 0, 1, 250), (12, 207, 0, 1, 0, 1, 250)]
def rfT : List (List (Option (Nat × Nat × Nat))) := [[some (1, 0, 0), some (1, 1, 0), some (1, 2, 0), none, some (27, 0, 0), some (28, 0, 0), some (29, 0, 0), none], [some (2, 9, 0), some (11, 9, 0), some (14, 9, 0), some (15, 9, 0), some (16, 9, 0), none, none, none, some (17, 9, 0), some (17, 9, 1), none, none, none, none, none, none, none, some (19, 9, 0), some (21, 9, 0), some (22, 9, 0)], [some (3, 9, 0), some (4, 9, 0), some (5, 9, 0), some (6, 9, 0), some (7, 9, 0), some (8, 9, 0), some (9, 9, 0), some (10, 9, 0)], [], [], [], [], [], [], [], [], [none, some (12, 9, 0), some (13, 9, 0)], [], [], [some (23, 9, 98), some (23, 9, 98), some (23, 9, 98), some (23, 9, 98), some (23, 9, 98)], [some (25, 9, 98), some (25, 9, 98), some (25, 9, 98), some (25, 9, 98), some (25, 9, 98), some (25, 9, 98), some (25, 9, 98), some (25, 9, 98), some (25, 9, 98), some (25, 9, 98), some (25, 9, 98), some (25, 9, 98)], [some (26, 9, 98), some (26, 9, 98), some (26, 9, 98), some (26, 9, 98), some (26, 9, 98), some (26, 9, 98)], [none, some (18, 9, 99)], [], [some (20, 9, 0)], [], [], [], [none, none, none, some (24, 9, 99)], [], [], [], [some (33, 0, 98), some (33, 0, 98), some (33, 0, 98), some (33, 0, 98), some (33, 0, 98), some (33, 0, 98), some (33, 0, 98), some (33, 0, 98)], [], [some (30, 0, 0), some (32, 0, 0), none, none], [none, none, none, some (31, 0, 0)], [], [], [none, none, none, none, some (34, 0, 99)], [], [some (36, 0, 0), some (36, 0, 1), some (36, 0, 2), none, some (37, 0, 0), some (38, 0, 0), some (39, 0, 0), some (40, 0, 0), some (41, 0, 0), some (42, 0, 0), some (43, 0, 0), some (44, 0, 0), some (45, 0, 0), some (46, 0, 0), some (47, 0, 0), some (48, 0, 0), none, some (49, 0, 0), some (50, 0, 0), none, none, none, none, none, none, none, some (51, 0, 0), some (52, 0, 0), some (53, 0, 0), some (54, 0, 0), some (55, 0, 0), none, none, none, some (56, 0, 0), some (57, 0, 0), some (58, 0, 0), some (59, 0, 0), some (60, 0, 0), some (61, 0, 0)], [], [], [], [], [], [], [], [], [], [], [], [], [], [], [], [], [], [], [], [], [], [], [], [], [], []]
def locT : List (Nat × Nat × Nat) := [(0, 0, 0), (1, 0, 0), (2, 0, 0), (3, 0, 0), (4, 0, 0), (5, 0, 0), (6, 0, 0), (7, 0, 0), (8, 0, 0), (9, 0, 0), (10, 0, 0), (11, 0, 0), (12, 0, 0), (13, 0, 0), (14, 0, 0), (15, 0, 0), (16, 0, 0), (17, 0, 0), (18, 0, 0), (17, 0, 1), (18, 0, 1), (19, 0, 0), (20, 0, 0), (21, 0, 0), (22, 0, 0), (23, 0, 0), (24, 0, 0), (23, 0, 1), (24, 0, 1), (23, 0, 2), (24, 0, 2), (23, 0, 3), (24, 0, 3), (23, 0, 4), (24, 0, 4), (25, 0, 0), (25, 0, 1), (25, 0, 2), (25, 0, 3), (25, 0, 4), (25, 0, 5), (25, 0, 6), (25, 0, 7), (25, 0, 8), (25, 0, 9), (25, 0, 10), (25, 0, 11), (26, 0, 0), (26, 0, 1), (26, 0, 2), (26, 0, 3), (26, 0, 4), (26, 0, 5), (1, 1, 0), (2, 1, 0), (3, 1, 0), (4, 1, 0), (5, 1, 0), (6, 1, 0), (7, 1, 0), (8, 1, 0), (9, 1, 0), (10, 1, 0), (11, 1, 0), (12, 1, 0), (13, 1, 0), (14, 1, 0), (15, 1, 0), (16, 1, 0), (17, 1, 0), (18, 1, 0), (17, 1, 1), (18, 1, 1), (19, 1, 0), (20, 1, 0), (21, 1, 0), (22, 1, 0), (23, 1, 0), (24, 1, 0), (23, 1, 1), (24, 1, 1), (23, 1, 2), (24, 1, 2), (23, 1, 3), (24, 1, 3), (23, 1, 4), (24, 1, 4), (25, 1, 0), (25, 1, 1), (25, 1, 2), (25, 1, 3), (25, 1, 4), (25, 1, 5), (25, 1, 6), (25, 1, 7), (25, 1, 8), (25, 1, 9), (25, 1, 10), (25, 1, 11), (26, 1, 0), (26, 1, 1), (26, 1, 2), (26, 1, 3), (26, 1, 4), (26, 1, 5), (1, 2, 0), (2, 2, 0), (3, 2, 0), (4, 2, 0), (5, 2, 0), (6, 2, 0), (7, 2, 0), (8, 2, 0), (9, 2, 0), (10, 2, 0), (11, 2, 0), (12, 2, 0), (13, 2, 0), (14, 2, 0), (15, 2, 0), (16, 2, 0), (17, 2, 0), (18, 2, 0), (17, 2, 1), (18, 2, 1), (19, 2, 0), (20, 2, 0), (21, 2, 0), (22, 2, 0), (23, 2, 0), (24, 2, 0), (23, 2, 1), (24, 2, 1), (23, 2, 2), (24, 2, 2), (23, 2, 3), (24, 2, 3), (23, 2, 4), (24, 2, 4), (25, 2, 0), (25, 2, 1), (25, 2, 2), (25, 2, 3), (25, 2, 4), (25, 2, 5), (25, 2, 6), (25, 2, 7), (25, 2, 8), (25, 2, 9), (25, 2, 10), (25, 2, 11), (26, 2, 0), (26, 2, 1), (26, 2, 2), (26, 2, 3), (26, 2, 4), (26, 2, 5), (27, 0, 0), (28, 0, 0), (29, 0, 0), (30, 0, 0), (31, 0, 0), (32, 0, 0), (33, 0, 0), (34, 0, 0), (33, 0, 1), (34, 0, 1), (33, 0, 2), (34, 0, 2), (33, 0, 3), (34, 0, 3), (33, 0, 4), (34, 0, 4), (33, 0, 5), (34, 0, 5), (33, 0, 6), (34, 0, 6), (33, 0, 7), (34, 0, 7), (35, 0, 0), (36, 0, 0), (36, 0, 1), (36, 0, 2), (37, 0, 0), (38, 0, 0), (39, 0, 0), (40, 0, 0), (41, 0, 0), (42, 0, 0), (43, 0, 0), (44, 0, 0), (45, 0, 0), (46, 0, 0), (47, 0, 0), (48, 0, 0), (49, 0, 0), (50, 0, 0), (51, 0, 0), (52, 0, 0), (53, 0, 0), (54, 0, 0), (55, 0, 0), (56, 0, 0), (57, 0, 0), (58, 0, 0), (59, 0, 0), (60, 0, 0), (61, 0, 0)]
abbrev zNC : Nat := 208
abbrev zNT : Nat := 62
abbrev ZS : Type := Nat → Nat → Nat → Nat → Int
def tRow (t : Nat) : Nat × Nat × Nat × Nat × Nat × Nat × Nat := tTab.getD t (0, 0, 0, 0, 0, 0, 0)
abbrev kd (t : Nat) : Nat := (tRow t).1
abbrev tni (t : Nat) : Nat := (tRow t).2.2.2.1
abbrev tnk (t : Nat) : Nat := (tRow t).2.2.2.2.2.1
abbrev tln (t : Nat) : Nat := (tRow t).2.2.2.2.2.2
def ad (t i k : Nat) : Nat := (tRow t).2.1 + (tRow t).2.2.1 * i + (tRow t).2.2.2.2.1 * k
def vd (t i k : Nat) : Prop := i < tni t ∧ k < tnk t
def rfO (t j : Nat) : Option (Nat × Nat × Nat) := ((rfT.getD t [])[j]?).join
def ixi (im i : Nat) : Nat := if im = 9 then i else im
def ixk (km k j : Nat) : Nat := if km = 99 then k else if km = 98 then j else km
def rfx (t i k j : Nat) : Option (Nat × Nat × Nat) := match rfO t j with
  | some (t', im, km) => some (t', ixi im i, ixk km k j)
  | none => none
abbrev iv (x : Int) : Value := .int (Int32.ofInt x)
abbrev jv (x : Int) : Value := .long (Int64.ofInt x)
abbrev av (t i k : Nat) : Value := .ref (ad t i k + 1)
/-- what a place holds -/
def sv (σ : ZS) (t i k j : Nat) : Value := match rfx t i k j with
  | some (t', i', k') => av t' i' k'
  | none => if kd t = 13 then jv (σ t i k j) else iv (σ t i k j)
def loc (n : Nat) : Nat × Nat × Nat := locT.getD n (0, 0, 0)
def cel (σ : ZS) (q : Nat × Nat × Nat) : XC := (kd q.1, tln q.1, sv σ q.1 q.2.1 q.2.2)
def hp (σ : ZS) : XH := (List.range zNC).map (fun n => cel σ (loc n))
theorem loc_chk : (List.range zNT).all (fun t => (List.range (tni t)).all (fun i => (List.range (tnk t)).all (fun k => decide (loc (ad t i k) = (t, i, k)) && decide (ad t i k < zNC)))) = true := by decide +kernel
theorem ad_chk : (List.range zNC).all (fun n => decide ((loc n).2.1 < tni (loc n).1) && decide ((loc n).2.2 < tnk (loc n).1) && decide (ad (loc n).1 (loc n).2.1 (loc n).2.2 = n)) = true := by decide +kernel
theorem loc_ad {t i k : Nat} (h : vd t i k) : loc (ad t i k) = (t, i, k) ∧ ad t i k < zNC := by
  have ht : t < zNT := by
    rcases Nat.lt_or_ge t zNT with h1 | h1
    · exact h1
    · exfalso
      have h2 : tRow t = (0, 0, 0, 0, 0, 0, 0) := by
        unfold tRow
        rw [List.getD_eq_getElem?_getD, List.getElem?_eq_none (by exact h1)]
        rfl
      have h3 := h.1
      simp only [tni, h2] at h3
      exact absurd h3 (Nat.not_lt_zero _)
  have h1 := List.all_eq_true.mp (List.all_eq_true.mp (List.all_eq_true.mp loc_chk t (List.mem_range.mpr ht)) i (List.mem_range.mpr h.1)) k (List.mem_range.mpr h.2)
  simp only [Bool.and_eq_true, decide_eq_true_eq] at h1
  exact h1
theorem ad_loc {n : Nat} (h : n < zNC) : vd (loc n).1 (loc n).2.1 (loc n).2.2 ∧ ad (loc n).1 (loc n).2.1 (loc n).2.2 = n := by
  have h1 := List.all_eq_true.mp ad_chk n (List.mem_range.mpr h)
  simp only [Bool.and_eq_true, decide_eq_true_eq] at h1
  exact ⟨⟨h1.1.1, h1.1.2⟩, h1.2⟩
theorem hp_get {t i k : Nat} (h : vd t i k) (σ : ZS) : (hp σ)[ad t i k]? = some (kd t, tln t, sv σ t i k) := by
  obtain ⟨h1, h2⟩ := loc_ad h
  unfold hp
  rw [List.getElem?_map, List.getElem?_range h2, Option.map_some, h1]
  rfl
theorem hp_set {t i k : Nat} {σ σ' : ZS} {f : Nat → Value} (h : vd t i k) (hf : ∀ j, f j = sv σ' t i k j) (ho : ∀ t' i' k', ¬ (t' = t ∧ i' = i ∧ k' = k) → σ' t' i' k' = σ t' i' k') : (hp σ).set (ad t i k) (kd t, tln t, f) = hp σ' := by
  obtain ⟨h1, h2⟩ := loc_ad h
  apply List.ext_getElem?
  intro n
  rw [List.getElem?_set]
  unfold hp
  simp only [List.length_map, List.length_range, List.getElem?_map]
  split
  · rename_i hn
    subst hn
    try rw [if_pos h2]
    rw [List.getElem?_range h2, Option.map_some, h1]
    exact congrArg some (congrArg (fun z => (kd t, tln t, z)) (funext hf))
  · rename_i hn
    by_cases hl : n < zNC
    · rw [List.getElem?_range hl, Option.map_some, Option.map_some]
      obtain ⟨g1, g2⟩ := ad_loc hl
      have hne : ¬ ((loc n).1 = t ∧ (loc n).2.1 = i ∧ (loc n).2.2 = k) := by
        rintro ⟨e1, e2, e3⟩
        rw [e1, e2, e3] at g2
        exact hn g2
      have h3 := ho _ _ _ hne
      refine congrArg some (congrArg (fun z => (kd (loc n).1, tln (loc n).1, z)) (funext fun j => ?_))
      unfold sv
      rw [h3]
    · have : (List.range zNC)[n]? = none := List.getElem?_eq_none (by simpa using hl)
      rw [this]
      rfl
def up (σ : ZS) (t i k j : Nat) (v : Int) : ZS := fun t' i' k' j' => if t' = t ∧ i' = i ∧ k' = k ∧ j' = j then v else σ t' i' k' j'
def upr (σ : ZS) (t i k : Nat) (f : Nat → Int) : ZS := fun t' i' k' j' => if t' = t ∧ i' = i ∧ k' = k then f j' else σ t' i' k' j'
theorem up_oth {σ : ZS} {t i k j : Nat} {v : Int} : ∀ t' i' k', ¬ (t' = t ∧ i' = i ∧ k' = k) → up σ t i k j v t' i' k' = σ t' i' k' := by
  intro t' i' k' h
  funext j'
  unfold up
  rw [if_neg (fun q => h ⟨q.1, q.2.1, q.2.2.1⟩)]
theorem upr_oth {σ : ZS} {t i k : Nat} {f : Nat → Int} : ∀ t' i' k', ¬ (t' = t ∧ i' = i ∧ k' = k) → upr σ t i k f t' i' k' = σ t' i' k' := by
  intro t' i' k' h
  funext j'
  unfold upr
  rw [if_neg h]
theorem up_ne {σ : ZS} {t i k j t' i' k' j' : Nat} {v : Int} (h : ¬ (t' = t ∧ i' = i ∧ k' = k ∧ j' = j)) : up σ t i k j v t' i' k' j' = σ t' i' k' j' := if_neg h
theorem up_eq {σ : ZS} {t i k j : Nat} {v : Int} : up σ t i k j v t i k j = v := if_pos ⟨rfl, rfl, rfl, rfl⟩
/-! ints -/
theorem I_toInt {x : Int} (h1 : -2147483648 ≤ x) (h2 : x ≤ 2147483647) : (Int32.ofInt x).toInt = x := Int32.toInt_ofInt_of_le (by simpa using h1) (by omega)
theorem I_of (w : Int32) : Int32.ofInt w.toInt = w := Int32.ofInt_toInt w
theorem J_of (w : Int64) : Int64.ofInt w.toInt = w := Int64.ofInt_toInt w
theorem I_lt {x y : Int} (hx : -2147483648 ≤ x ∧ x ≤ 2147483647) (hy : -2147483648 ≤ y ∧ y ≤ 2147483647) : Int32.ofInt x < Int32.ofInt y ↔ x < y := by
  rw [Int32.lt_iff_toInt_lt, I_toInt hx.1 hx.2, I_toInt hy.1 hy.2]
theorem I_le {x y : Int} (hx : -2147483648 ≤ x ∧ x ≤ 2147483647) (hy : -2147483648 ≤ y ∧ y ≤ 2147483647) : Int32.ofInt x ≤ Int32.ofInt y ↔ x ≤ y := by
  rw [Int32.le_iff_toInt_le, I_toInt hx.1 hx.2, I_toInt hy.1 hy.2]
theorem I_eq {x y : Int} (hx : -2147483648 ≤ x ∧ x ≤ 2147483647) (hy : -2147483648 ≤ y ∧ y ≤ 2147483647) : Int32.ofInt x = Int32.ofInt y ↔ x = y := by
  rw [← Int32.toInt_inj, I_toInt hx.1 hx.2, I_toInt hy.1 hy.2]
theorem I_idx {x : Int} {n : Nat} (h0 : 0 ≤ x) (h1 : x < n) (h2 : x ≤ 2147483647) : ¬ (Int32.ofInt x < 0 ∨ n ≤ (Int32.ofInt x).toNatClampNeg) ∧ (Int32.ofInt x).toNatClampNeg = x.toNat := by
  have e1 : (Int32.ofInt x).toInt = x := I_toInt (by omega) h2
  have e2 : (Int32.ofInt x).toNatClampNeg = x.toNat := by
    show (Int32.ofInt x).toInt.toNat = x.toNat
    rw [e1]
  refine ⟨?_, e2⟩
  rw [e2, Int32.lt_iff_toInt_lt, e1]
  have : (0 : Int32).toInt = 0 := rfl
  omega
theorem I_div {x y : Int} (hx : 0 ≤ x ∧ x ≤ 2147483647) (hy : 0 < y ∧ y ≤ 2147483647) : Int32.ofInt x / Int32.ofInt y = Int32.ofInt (x / y) := by
  have h1 : 0 ≤ x / y := Int.ediv_nonneg hx.1 (by omega)
  have h2 : x / y ≤ x := Int.ediv_le_self _ hx.1
  rw [← Int32.toInt_inj, Int32.toInt_div, I_toInt (by omega) hx.2, I_toInt (by omega) hy.2, I_toInt (by omega) (by omega), Int.tdiv_eq_ediv_of_nonneg hx.1]
  rw [Int.bmod_eq_of_le (by omega) (by omega)]
theorem I_rem {x y : Int} (hx : 0 ≤ x ∧ x ≤ 2147483647) (hy : 0 < y ∧ y ≤ 2147483647) : Int32.ofInt x - Int32.ofInt x / Int32.ofInt y * Int32.ofInt y = Int32.ofInt (x % y) := by
  rw [I_div hx hy, ← Int32.ofInt_mul, ← Int32.ofInt_sub]
  congr 1
  have := Int.mul_ediv_add_emod x y
  rw [Int.mul_comm] at this
  omega
theorem I_ne0 {y : Int} (hy : 0 < y ∧ y ≤ 2147483647) : ¬ Int32.ofInt y = 0 := by
  intro h
  have h1 := congrArg Int32.toInt h
  rw [I_toInt (by omega) hy.2] at h1
  have : (0 : Int32).toInt = 0 := rfl
  omega
/-! more steps, more depth, the same end -/
def xSub (c1 c2 : XF) : Prop := ∀ m a h r, c1 m a h = some r → c2 m a h = some r
theorem xcall_sub {c1 c2 : XF} (hs : xSub c1 c2) {en : zE} {st : List Value} {h : XH} {r : List Value × XH} (ho : xcall c1 en st h = some r) : xcall c2 en st h = some r := by
  simp only [xcall] at ho ⊢
  split at ho
  · rename_i hc
    rw [if_pos hc]
    split at ho
    · rename_i v h1 hcl
      rw [hs _ _ _ _ hcl]
      exact ho
    · cases ho
  · cases ho
theorem xone_sub {xs : Nat × (Nat → Int32)} {c1 c2 : XF} (hs : xSub c1 c2) {m pc : Nat} {L : XL} {st : List Value} {h : XH} {r : XS ⊕ XR} (ho : xone xs c1 m pc L st h = some r) : xone xs c2 m pc L st h = some r := by
  unfold xone at ho ⊢
  cases hen : zc m pc with
  | none => rw [hen] at ho; cases ho
  | some en =>
    rw [hen] at ho
    dsimp only at ho ⊢
    split at ho
    · rename_i hinv
      rw [if_pos hinv]
      split at ho
      · rename_i h5
        rw [if_pos h5]
        split at ho
        · rename_i st' h' hx2
          rw [xcall_sub hs hx2]
          exact ho
        · cases ho
      · rename_i h5
        rw [if_neg h5]
        exact ho
    · rename_i hinv
      rw [if_neg hinv]
      exact ho
theorem xgo_sub {xs : Nat × (Nat → Int32)} {c1 c2 : XF} (hs : xSub c1 c2) {m : Nat} : ∀ {n n' pc : Nat} {L : XL} {st : List Value} {h : XH} {r : XR}, n ≤ n' → xgo xs c1 m n pc L st h = some r → xgo xs c2 m n' pc L st h = some r := by
  intro n
  induction n with
  | zero => intro n' pc L st h r _ q; cases q
  | succ n ih =>
    intro n' pc L st h r hn q
    obtain ⟨n', rfl⟩ : ∃ k, n' = k + 1 := ⟨n' - 1, by omega⟩
    simp only [xgo] at q ⊢
    split at q
    · rename_i s' hs'
      rw [xone_sub hs hs']
      exact ih (by omega) q
    · rename_i r' hs'
      rw [xone_sub hs hs']
      exact q
    · cases q
theorem xrun_sub {xs : Nat × (Nat → Int32)} {n n' : Nat} (hn : n ≤ n') : ∀ {d d' : Nat}, d ≤ d' → xSub (xrun xs n d) (xrun xs n' d') := by
  intro d
  induction d with
  | zero => intro d' _ m a h r q; cases q
  | succ d ih =>
    intro d' hd m a h r q
    obtain ⟨d', rfl⟩ : ∃ k, d' = k + 1 := ⟨d' - 1, by omega⟩
    simp only [xrun] at q ⊢
    split at q
    · rename_i hl
      rw [if_pos hl]
      exact xgo_sub (ih (by omega)) hn q
    · cases q
end
section
/-! a logic for the small machine over the layout -/
def TT (xs : Nat × (Nat → Int32)) (d m pc : Nat) (L : XL) (st : List Value) (σ : ZS) (Q : Option Value → ZS → Prop) : Prop := ∃ (n : Nat) (v : Option Value) (σ' : ZS), xgo xs (xrun xs n d) m n pc L st (hp σ) = some (v, hp σ') ∧ Q v σ'
def CT (xs : Nat × (Nat → Int32)) (d m : Nat) (a : List Value) (σ : ZS) (Q : Option Value → ZS → Prop) : Prop := ∃ (n : Nat) (v : Option Value) (σ' : ZS), xrun xs n d m a (hp σ) = some (v, hp σ') ∧ Q v σ'
def TJ (xs : Nat × (Nat → Int32)) (J : ZS → Prop) (d m pc : Nat) (L : XL) (st : List Value) (Q : Option Value → ZS → Prop) : Prop := ∀ σ, J σ → TT xs d m pc L st σ Q
theorem CT.le {xs : Nat × (Nat → Int32)} {d d' m : Nat} {a : List Value} {σ : ZS} {Q Q' : Option Value → ZS → Prop} (h : CT xs d m a σ Q) (hd : d ≤ d') (hq : ∀ v σ', Q v σ' → Q' v σ') : CT xs d' m a σ Q' := by
  obtain ⟨n, v, σ', h1, h2⟩ := h
  exact ⟨n, v, σ', xrun_sub (Nat.le_refl n) hd _ _ _ _ h1, hq _ _ h2⟩
theorem CT.of {xs : Nat × (Nat → Int32)} {d m nL : Nat} {a : List Value} {L : XL} {σ : ZS} {Q : Option Value → ZS → Prop} (hn : zMl m = nL) (hl : (lg_sl a).length ≤ nL) (hL : xent 0 a = L) (h : TT xs d m 0 L [] σ Q) : CT xs (d + 1) m a σ Q := by
  obtain ⟨n, v, σ', h1, h2⟩ := h
  refine ⟨n, v, σ', ?_, h2⟩
  simp only [xrun]
  rw [if_pos (by rw [hn]; exact hl), hL]
  exact h1
theorem iv_of (w : Int32) : iv w.toInt = .int w := congrArg Value.int (I_of w)
theorem jv_of (w : Int64) : jv w.toInt = .long w := congrArg Value.long (J_of w)
theorem J_i2l {x : Int} (hx : -2147483648 ≤ x ∧ x ≤ 2147483647) : (Int32.ofInt x).toInt64 = Int64.ofInt x := by
  rw [← Int64.toInt_inj, Int32.toInt_toInt64, I_toInt hx.1 hx.2, Int64.toInt_ofInt_of_le (by simp; omega) (by omega)]
section LG
variable {xs : Nat × (Nat → Int32)} {d m pc pc' : Nat} {L L' : XL} {st st' r : List Value} {σ σ' : ZS} {Q : Option Value → ZS → Prop} {J J' : ZS → Prop} {i : Instr} {a1 a2 p : Nat} {c : Int}
theorem TT.step {h : XH} (ho : ∀ call, xone xs call m pc L st (hp σ) = some (.inl (pc', L', st', hp σ'))) (k : TT xs d m pc' L' st' σ' Q) : TT xs d m pc L st σ Q := by
  obtain ⟨n, v, σ2, h, q⟩ := k
  refine ⟨n + 1, v, σ2, ?_, q⟩
  simp only [xgo, ho]
  exact xgo_sub (xrun_sub (Nat.le_succ n) (Nat.le_refl d)) (Nat.le_refl n) h
theorem xone_op {call : XF} {h : XH} {en : zE} (hz : zc m pc = some en) (h1 : xinv en.1 = false) (h2 : xop en.1 st = some st') : xone xs call m pc L st h = some (.inl (pc + zLen en.1, L, st', h)) := by
  unfold xone
  rw [hz]
  dsimp only
  rw [h1, if_neg (by decide), h2]
theorem xone_ld {call : XF} {h : XH} {en : zE} {v : Value} (hz : zc m pc = some en) (h1 : xinv en.1 = false) (h2 : xop en.1 st = none) (h3 : xld en.1 L = some v) : xone xs call m pc L st h = some (.inl (pc + zLen en.1, L, v :: st, h)) := by
  unfold xone
  rw [hz]
  dsimp only
  rw [h1, if_neg (by decide), h2]
  dsimp only
  rw [h3]
theorem xone_st {call : XF} {h : XH} {en : zE} (hz : zc m pc = some en) (h1 : xinv en.1 = false) (h2 : xop en.1 st = none) (h3 : xld en.1 L = none) (h4 : xst (zMl m) en.1 L st = some (L', st')) : xone xs call m pc L st h = some (.inl (pc + zLen en.1, L', st', h)) := by
  unfold xone
  rw [hz]
  dsimp only
  rw [h1, if_neg (by decide), h2]
  dsimp only
  rw [h3]
  dsimp only
  rw [h4]
theorem xone_br {call : XF} {h : XH} {en : zE} {t : Nat} (hz : zc m pc = some en) (h1 : xinv en.1 = false) (h2 : xop en.1 st = none) (h3 : xld en.1 L = none) (h4 : ∀ n, xst n en.1 L st = none) (h5 : xbr en.1 en.2.1 pc st = some (t, st')) : xone xs call m pc L st h = some (.inl (t, L, st', h)) := by
  unfold xone
  rw [hz]
  dsimp only
  rw [h1, if_neg (by decide), h2]
  dsimp only
  rw [h3]
  dsimp only
  rw [h4]
  dsimp only
  rw [h5]
theorem xone_hp {call : XF} {h h' : XH} {en : zE} (hz : zc m pc = some en) (h1 : xinv en.1 = false) (h2 : xop en.1 st = none) (h3 : xld en.1 L = none) (h4 : ∀ n, xst n en.1 L st = none) (h5 : ∀ t, xbr en.1 t pc st = none) (h6 : xhp xs ((zMrow m).2.1 == "<init>") (zMo m) en st h = some (st', h')) : xone xs call m pc L st h = some (.inl (pc + zLen en.1, L, st', h')) := by
  unfold xone
  rw [hz]
  dsimp only
  rw [h1, if_neg (by decide), h2]
  dsimp only
  rw [h3]
  dsimp only
  rw [h4]
  dsimp only
  rw [h5]
  dsimp only
  rw [h6]
/-- an instruction on the stack alone -/
theorem T_op (hz : zc m pc = some (i, a1, a2, c, p)) (h1 : xinv i = false) (ho : xop i st = some st') (hp' : pc + zLen i = pc') (k : TJ xs J d m pc' L st' Q) : TJ xs J d m pc L st Q := fun σ hJ => TT.step (h := []) (fun call => by rw [xone_op hz h1 ho, hp']) (k σ hJ)
theorem T_ld {v : Value} (hz : zc m pc = some (i, a1, a2, c, p)) (h1 : xinv i = false) (h2 : xop i st = none) (h3 : xld i L = some v) (hp' : pc + zLen i = pc') (k : TJ xs J d m pc' L (v :: st) Q) : TJ xs J d m pc L st Q := fun σ hJ => TT.step (h := []) (fun call => by rw [xone_ld hz h1 h2 h3, hp']) (k σ hJ)
theorem T_st {nL : Nat} (hz : zc m pc = some (i, a1, a2, c, p)) (hn : zMl m = nL) (h1 : xinv i = false) (h2 : xop i st = none) (h3 : xld i L = none) (h4 : xst nL i L st = some (L', st')) (hp' : pc + zLen i = pc') (k : TJ xs J d m pc' L' st' Q) : TJ xs J d m pc L st Q := fun σ hJ => TT.step (h := []) (fun call => by rw [xone_st hz h1 h2 h3 (by rw [hn]; exact h4), hp']) (k σ hJ)
theorem T_br {t : Nat} (hz : zc m pc = some (i, a1, a2, c, p)) (h1 : xinv i = false) (h2 : xop i st = none) (h3 : xld i L = none) (h4 : ∀ n, xst n i L st = none) (h5 : xbr i a1 pc st = some (t, st')) (k : TJ xs J d m t L st' Q) : TJ xs J d m pc L st Q := fun σ hJ => TT.step (h := []) (fun call => xone_br hz h1 h2 h3 h4 h5) (k σ hJ)
theorem T_goto {off : Int} (hz : zc m pc = some (.goto off, a1, a2, c, p)) (k : TJ xs J d m a1 L st Q) : TJ xs J d m pc L st Q := T_br hz rfl rfl rfl (fun _ => rfl) rfl k
/-- arithmetic -/
theorem X_add {x y : Int} : xop .iadd (iv y :: iv x :: r) = some (iv (x + y) :: r) := by simp [xop, Int32.ofInt_add]
theorem X_sub {x y : Int} : xop .isub (iv y :: iv x :: r) = some (iv (x - y) :: r) := by simp [xop, Int32.ofInt_sub]
theorem X_mul {x y : Int} : xop .imul (iv y :: iv x :: r) = some (iv (x * y) :: r) := by simp [xop, Int32.ofInt_mul]
theorem X_neg {x : Int} : xop .ineg (iv x :: r) = some (iv (-x) :: r) := by simp [xop, Int32.ofInt_neg]
theorem X_div {x y : Int} (hx : 0 ≤ x ∧ x ≤ 2147483647) (hy : 0 < y ∧ y ≤ 2147483647) : xop .idiv (iv y :: iv x :: r) = some (iv (x / y) :: r) := by simp only [xop, if_neg (I_ne0 hy), I_div hx hy]
theorem X_rem {x y : Int} (hx : 0 ≤ x ∧ x ≤ 2147483647) (hy : 0 < y ∧ y ≤ 2147483647) : xop .irem (iv y :: iv x :: r) = some (iv (x % y) :: r) := by simp only [xop, if_neg (I_ne0 hy), I_rem hx hy]
/-- what isn't followed: some int, some long -/
def xun (i : Instr) : Bool := match i with
  | .iand => true
  | .ior => true
  | .ishl => true
  | .ishr => true
  | .imul => true
  | .iadd => true
  | .isub => true
  | _ => false
theorem T_unk {x y : Int} (hz : zc m pc = some (i, a1, a2, c, p)) (hu : xun i = true) (k : ∀ z : Int, TJ xs J d m (pc + 1) L (iv z :: r) Q) : TJ xs J d m pc L (iv y :: iv x :: r) Q := by
  have h : ∃ w : Int32, xop i (iv y :: iv x :: r) = some (.int w :: r) ∧ xinv i = false ∧ zLen i = 1 := by
    cases i <;> simp [xun] at hu <;> exact ⟨_, rfl, rfl, rfl⟩
  obtain ⟨w, h1, h2, h3⟩ := h
  refine T_op hz h2 (h1.trans ?_) (by rw [h3]) (k w.toInt)
  rw [iv_of]
theorem T_unkD {x y : Int} (hz : zc m pc = some (i, a1, a2, c, p)) (hu : i = .idiv ∨ i = .irem) (hy : ¬ Int32.ofInt y = 0) (k : ∀ z : Int, TJ xs J d m (pc + 1) L (iv z :: r) Q) : TJ xs J d m pc L (iv y :: iv x :: r) Q := by
  rcases hu with rfl | rfl
  · refine T_op hz rfl (st' := .int (Int32.ofInt x / Int32.ofInt y) :: r) (by simp only [xop, if_neg hy]) rfl ?_
    have := k (Int32.ofInt x / Int32.ofInt y).toInt
    rwa [iv_of] at this
  · refine T_op hz rfl (st' := .int (Int32.ofInt x - Int32.ofInt x / Int32.ofInt y * Int32.ofInt y) :: r) (by simp only [xop, if_neg hy]) rfl ?_
    have := k (Int32.ofInt x - Int32.ofInt x / Int32.ofInt y * Int32.ofInt y).toInt
    rwa [iv_of] at this
def xunL (i : Instr) : Bool := match i with
  | .ladd => true
  | .land => true
  | .lor => true
  | .lxor => true
  | _ => false
theorem T_unkL {x y : Int} (hz : zc m pc = some (i, a1, a2, c, p)) (hu : xunL i = true) (k : ∀ z : Int, TJ xs J d m (pc + 1) L (jv z :: r) Q) : TJ xs J d m pc L (jv y :: jv x :: r) Q := by
  have h : ∃ w : Int64, xop i (jv y :: jv x :: r) = some (.long w :: r) ∧ xinv i = false ∧ zLen i = 1 := by
    cases i <;> simp [xunL] at hu <;> exact ⟨_, rfl, rfl, rfl⟩
  obtain ⟨w, h1, h2, h3⟩ := h
  refine T_op hz h2 (h1.trans ?_) (by rw [h3]) (k w.toInt)
  rw [jv_of]
def xunS (i : Instr) : Bool := match i with
  | .lshl => true
  | .lushr => true
  | _ => false
theorem T_unkS {x y : Int} (hz : zc m pc = some (i, a1, a2, c, p)) (hu : xunS i = true) (k : ∀ z : Int, TJ xs J d m (pc + 1) L (jv z :: r) Q) : TJ xs J d m pc L (iv y :: jv x :: r) Q := by
  have h : ∃ w : Int64, xop i (iv y :: jv x :: r) = some (.long w :: r) ∧ xinv i = false ∧ zLen i = 1 := by
    cases i <;> simp [xunS] at hu <;> exact ⟨_, rfl, rfl, rfl⟩
  obtain ⟨w, h1, h2, h3⟩ := h
  refine T_op hz h2 (h1.trans ?_) (by rw [h3]) (k w.toInt)
  rw [jv_of]
theorem T_lcmp {x y : Int} (hz : zc m pc = some (.lcmp, a1, a2, c, p)) (k : ∀ z : Int, -1 ≤ z → z ≤ 1 → (z = 0 ↔ Int64.ofInt x = Int64.ofInt y) → TJ xs J d m (pc + 1) L (iv z :: r) Q) : TJ xs J d m pc L (jv y :: jv x :: r) Q := by
  refine T_op hz rfl (st' := .int (lg_cmp (Int64.ofInt x) (Int64.ofInt y)) :: r) rfl rfl ?_
  unfold lg_cmp
  split
  · rename_i hlt
    exact k 1 (by omega) (by omega) ⟨fun q => by omega, fun q => by rw [q] at hlt; exact absurd hlt (Int64.lt_irrefl)⟩
  · split
    · rename_i he
      exact k 0 (by omega) (by omega) ⟨fun _ => he, fun _ => rfl⟩
    · rename_i he
      exact k (-1) (by omega) (by omega) ⟨fun q => by omega, fun q => absurd q he⟩
theorem T_i2l {x : Int} (hx : -2147483648 ≤ x ∧ x ≤ 2147483647) (hz : zc m pc = some (.i2l, a1, a2, c, p)) (k : TJ xs J d m (pc + 1) L (jv x :: r) Q) : TJ xs J d m pc L (iv x :: r) Q := by
  refine T_op hz rfl (st' := jv x :: r) ?_ rfl k
  simp only [xop, J_i2l hx]
def xunI (i : Instr) : Bool := match i with
  | .ineg => true
  | .i2b => true
  | .i2s => true
  | _ => false
theorem T_unkI {x : Int} (hz : zc m pc = some (i, a1, a2, c, p)) (hu : xunI i = true) (k : ∀ z : Int, TJ xs J d m (pc + 1) L (iv z :: r) Q) : TJ xs J d m pc L (iv x :: r) Q := by
  have h : ∃ w : Int32, xop i (iv x :: r) = some (.int w :: r) ∧ xinv i = false ∧ zLen i = 1 := by
    cases i <;> simp [xunI] at hu <;> exact ⟨_, rfl, rfl, rfl⟩
  obtain ⟨w, h1, h2, h3⟩ := h
  refine T_op hz h2 (h1.trans ?_) (by rw [h3]) (k w.toInt)
  rw [iv_of]
theorem T_i2lU {x : Int} (hz : zc m pc = some (.i2l, a1, a2, c, p)) (k : ∀ z : Int, TJ xs J d m (pc + 1) L (jv z :: r) Q) : TJ xs J d m pc L (iv x :: r) Q := by
  refine T_op hz rfl (st' := .long (Int32.ofInt x).toInt64 :: r) rfl rfl ?_
  have := k (Int32.ofInt x).toInt64.toInt
  rwa [jv_of] at this
theorem T_l2iU {x : Int} (hz : zc m pc = some (.l2i, a1, a2, c, p)) (k : ∀ z : Int, -2147483648 ≤ z → z ≤ 2147483647 → Int32.ofInt z = (Int64.ofInt x).toInt32 → TJ xs J d m (pc + 1) L (iv z :: r) Q) : TJ xs J d m pc L (jv x :: r) Q := by
  refine T_op hz rfl (st' := .int (Int64.ofInt x).toInt32 :: r) rfl rfl ?_
  have := k (Int64.ofInt x).toInt32.toInt (Int32.le_toInt _) (Int32.toInt_le _) (I_of _)
  rwa [iv_of] at this
theorem T_icmp_eq {x y : Int} {off : Int} (hz : zc m pc = some (.if_icmp .eq off, a1, a2, c, p)) (hx : -2147483648 ≤ x ∧ x ≤ 2147483647) (hy : -2147483648 ≤ y ∧ y ≤ 2147483647) (hp' : pc + 3 = pc') (kt : x = y → TJ xs J d m a1 L r Q) (kf : ¬ x = y → TJ xs J d m pc' L r Q) : TJ xs J d m pc L (iv y :: iv x :: r) Q := by
  by_cases hc : x = y
  · exact T_br hz rfl rfl rfl (fun _ => rfl) (t := a1) (by simp only [xbr, I_eq hx hy]; rw [if_pos hc]) (kt hc)
  · exact T_br hz rfl rfl rfl (fun _ => rfl) (t := pc') (by simp only [xbr, I_eq hx hy]; rw [if_neg hc, hp']) (kf (by omega))
theorem T_if_eq {x : Int} {off : Int} (hz : zc m pc = some (.ifCond .eq off, a1, a2, c, p)) (hx : -2147483648 ≤ x ∧ x ≤ 2147483647) (hp' : pc + 3 = pc') (kt : x = 0 → TJ xs J d m a1 L r Q) (kf : ¬ x = 0 → TJ xs J d m pc' L r Q) : TJ xs J d m pc L (iv x :: r) Q := by
  have hy : -2147483648 ≤ (0 : Int) ∧ (0 : Int) ≤ 2147483647 := by omega
  have h0 : (0 : Int32) = Int32.ofInt 0 := rfl
  by_cases hc : x = 0
  · exact T_br hz rfl rfl rfl (fun _ => rfl) (t := a1) (by simp only [xbr, h0, I_eq hx hy]; rw [if_pos hc]) (kt hc)
  · exact T_br hz rfl rfl rfl (fun _ => rfl) (t := pc') (by simp only [xbr, h0, I_eq hx hy]; rw [if_neg hc, hp']) (kf (by omega))
theorem T_ucmp_eq {x y : Int} {off : Int} (hz : zc m pc = some (.if_icmp .eq off, a1, a2, c, p)) (hp' : pc + 3 = pc') (kt : TJ xs J d m a1 L r Q) (kf : TJ xs J d m pc' L r Q) : TJ xs J d m pc L (iv y :: iv x :: r) Q := by
  by_cases hc : Int32.ofInt x = Int32.ofInt y
  · exact T_br hz rfl rfl rfl (fun _ => rfl) (t := a1) (by simp only [xbr]; rw [if_pos hc]) kt
  · exact T_br hz rfl rfl rfl (fun _ => rfl) (t := pc') (by simp only [xbr]; rw [if_neg hc, hp']) kf
theorem T_uif_eq {x : Int} {off : Int} (hz : zc m pc = some (.ifCond .eq off, a1, a2, c, p)) (hp' : pc + 3 = pc') (kt : TJ xs J d m a1 L r Q) (kf : TJ xs J d m pc' L r Q) : TJ xs J d m pc L (iv x :: r) Q := by
  by_cases hc : Int32.ofInt x = (0 : Int32)
  · exact T_br hz rfl rfl rfl (fun _ => rfl) (t := a1) (by simp only [xbr]; rw [if_pos hc]) kt
  · exact T_br hz rfl rfl rfl (fun _ => rfl) (t := pc') (by simp only [xbr]; rw [if_neg hc, hp']) kf
theorem T_icmp_ne {x y : Int} {off : Int} (hz : zc m pc = some (.if_icmp .ne off, a1, a2, c, p)) (hx : -2147483648 ≤ x ∧ x ≤ 2147483647) (hy : -2147483648 ≤ y ∧ y ≤ 2147483647) (hp' : pc + 3 = pc') (kt : ¬ x = y → TJ xs J d m a1 L r Q) (kf : x = y → TJ xs J d m pc' L r Q) : TJ xs J d m pc L (iv y :: iv x :: r) Q := by
  by_cases hc : ¬ x = y
  · exact T_br hz rfl rfl rfl (fun _ => rfl) (t := a1) (by simp only [xbr, I_eq hx hy]; rw [if_pos hc]) (kt hc)
  · exact T_br hz rfl rfl rfl (fun _ => rfl) (t := pc') (by simp only [xbr, I_eq hx hy]; rw [if_neg hc, hp']) (kf (by omega))
theorem T_if_ne {x : Int} {off : Int} (hz : zc m pc = some (.ifCond .ne off, a1, a2, c, p)) (hx : -2147483648 ≤ x ∧ x ≤ 2147483647) (hp' : pc + 3 = pc') (kt : ¬ x = 0 → TJ xs J d m a1 L r Q) (kf : x = 0 → TJ xs J d m pc' L r Q) : TJ xs J d m pc L (iv x :: r) Q := by
  have hy : -2147483648 ≤ (0 : Int) ∧ (0 : Int) ≤ 2147483647 := by omega
  have h0 : (0 : Int32) = Int32.ofInt 0 := rfl
  by_cases hc : ¬ x = 0
  · exact T_br hz rfl rfl rfl (fun _ => rfl) (t := a1) (by simp only [xbr, h0, I_eq hx hy]; rw [if_pos hc]) (kt hc)
  · exact T_br hz rfl rfl rfl (fun _ => rfl) (t := pc') (by simp only [xbr, h0, I_eq hx hy]; rw [if_neg hc, hp']) (kf (by omega))
theorem T_ucmp_ne {x y : Int} {off : Int} (hz : zc m pc = some (.if_icmp .ne off, a1, a2, c, p)) (hp' : pc + 3 = pc') (kt : TJ xs J d m a1 L r Q) (kf : TJ xs J d m pc' L r Q) : TJ xs J d m pc L (iv y :: iv x :: r) Q := by
  by_cases hc : ¬ Int32.ofInt x = Int32.ofInt y
  · exact T_br hz rfl rfl rfl (fun _ => rfl) (t := a1) (by simp only [xbr]; rw [if_pos hc]) kt
  · exact T_br hz rfl rfl rfl (fun _ => rfl) (t := pc') (by simp only [xbr]; rw [if_neg hc, hp']) kf
theorem T_uif_ne {x : Int} {off : Int} (hz : zc m pc = some (.ifCond .ne off, a1, a2, c, p)) (hp' : pc + 3 = pc') (kt : TJ xs J d m a1 L r Q) (kf : TJ xs J d m pc' L r Q) : TJ xs J d m pc L (iv x :: r) Q := by
  by_cases hc : ¬ Int32.ofInt x = (0 : Int32)
  · exact T_br hz rfl rfl rfl (fun _ => rfl) (t := a1) (by simp only [xbr]; rw [if_pos hc]) kt
  · exact T_br hz rfl rfl rfl (fun _ => rfl) (t := pc') (by simp only [xbr]; rw [if_neg hc, hp']) kf
theorem T_icmp_lt {x y : Int} {off : Int} (hz : zc m pc = some (.if_icmp .lt off, a1, a2, c, p)) (hx : -2147483648 ≤ x ∧ x ≤ 2147483647) (hy : -2147483648 ≤ y ∧ y ≤ 2147483647) (hp' : pc + 3 = pc') (kt : x < y → TJ xs J d m a1 L r Q) (kf : y ≤ x → TJ xs J d m pc' L r Q) : TJ xs J d m pc L (iv y :: iv x :: r) Q := by
  by_cases hc : x < y
  · exact T_br hz rfl rfl rfl (fun _ => rfl) (t := a1) (by simp only [xbr, I_lt hx hy]; rw [if_pos hc]) (kt hc)
  · exact T_br hz rfl rfl rfl (fun _ => rfl) (t := pc') (by simp only [xbr, I_lt hx hy]; rw [if_neg hc, hp']) (kf (by omega))
theorem T_if_lt {x : Int} {off : Int} (hz : zc m pc = some (.ifCond .lt off, a1, a2, c, p)) (hx : -2147483648 ≤ x ∧ x ≤ 2147483647) (hp' : pc + 3 = pc') (kt : x < 0 → TJ xs J d m a1 L r Q) (kf : 0 ≤ x → TJ xs J d m pc' L r Q) : TJ xs J d m pc L (iv x :: r) Q := by
  have hy : -2147483648 ≤ (0 : Int) ∧ (0 : Int) ≤ 2147483647 := by omega
  have h0 : (0 : Int32) = Int32.ofInt 0 := rfl
  by_cases hc : x < 0
  · exact T_br hz rfl rfl rfl (fun _ => rfl) (t := a1) (by simp only [xbr, h0, I_lt hx hy]; rw [if_pos hc]) (kt hc)
  · exact T_br hz rfl rfl rfl (fun _ => rfl) (t := pc') (by simp only [xbr, h0, I_lt hx hy]; rw [if_neg hc, hp']) (kf (by omega))
theorem T_ucmp_lt {x y : Int} {off : Int} (hz : zc m pc = some (.if_icmp .lt off, a1, a2, c, p)) (hp' : pc + 3 = pc') (kt : TJ xs J d m a1 L r Q) (kf : TJ xs J d m pc' L r Q) : TJ xs J d m pc L (iv y :: iv x :: r) Q := by
  by_cases hc : Int32.ofInt x < Int32.ofInt y
  · exact T_br hz rfl rfl rfl (fun _ => rfl) (t := a1) (by simp only [xbr]; rw [if_pos hc]) kt
  · exact T_br hz rfl rfl rfl (fun _ => rfl) (t := pc') (by simp only [xbr]; rw [if_neg hc, hp']) kf
theorem T_uif_lt {x : Int} {off : Int} (hz : zc m pc = some (.ifCond .lt off, a1, a2, c, p)) (hp' : pc + 3 = pc') (kt : TJ xs J d m a1 L r Q) (kf : TJ xs J d m pc' L r Q) : TJ xs J d m pc L (iv x :: r) Q := by
  by_cases hc : Int32.ofInt x < (0 : Int32)
  · exact T_br hz rfl rfl rfl (fun _ => rfl) (t := a1) (by simp only [xbr]; rw [if_pos hc]) kt
  · exact T_br hz rfl rfl rfl (fun _ => rfl) (t := pc') (by simp only [xbr]; rw [if_neg hc, hp']) kf
theorem T_icmp_ge {x y : Int} {off : Int} (hz : zc m pc = some (.if_icmp .ge off, a1, a2, c, p)) (hx : -2147483648 ≤ x ∧ x ≤ 2147483647) (hy : -2147483648 ≤ y ∧ y ≤ 2147483647) (hp' : pc + 3 = pc') (kt : y ≤ x → TJ xs J d m a1 L r Q) (kf : x < y → TJ xs J d m pc' L r Q) : TJ xs J d m pc L (iv y :: iv x :: r) Q := by
  by_cases hc : y ≤ x
  · exact T_br hz rfl rfl rfl (fun _ => rfl) (t := a1) (by simp only [xbr, I_le hy hx]; rw [if_pos hc]) (kt hc)
  · exact T_br hz rfl rfl rfl (fun _ => rfl) (t := pc') (by simp only [xbr, I_le hy hx]; rw [if_neg hc, hp']) (kf (by omega))
theorem T_if_ge {x : Int} {off : Int} (hz : zc m pc = some (.ifCond .ge off, a1, a2, c, p)) (hx : -2147483648 ≤ x ∧ x ≤ 2147483647) (hp' : pc + 3 = pc') (kt : 0 ≤ x → TJ xs J d m a1 L r Q) (kf : x < 0 → TJ xs J d m pc' L r Q) : TJ xs J d m pc L (iv x :: r) Q := by
  have hy : -2147483648 ≤ (0 : Int) ∧ (0 : Int) ≤ 2147483647 := by omega
  have h0 : (0 : Int32) = Int32.ofInt 0 := rfl
  by_cases hc : 0 ≤ x
  · exact T_br hz rfl rfl rfl (fun _ => rfl) (t := a1) (by simp only [xbr, h0, I_le hy hx]; rw [if_pos hc]) (kt hc)
  · exact T_br hz rfl rfl rfl (fun _ => rfl) (t := pc') (by simp only [xbr, h0, I_le hy hx]; rw [if_neg hc, hp']) (kf (by omega))
theorem T_ucmp_ge {x y : Int} {off : Int} (hz : zc m pc = some (.if_icmp .ge off, a1, a2, c, p)) (hp' : pc + 3 = pc') (kt : TJ xs J d m a1 L r Q) (kf : TJ xs J d m pc' L r Q) : TJ xs J d m pc L (iv y :: iv x :: r) Q := by
  by_cases hc : Int32.ofInt y ≤ Int32.ofInt x
  · exact T_br hz rfl rfl rfl (fun _ => rfl) (t := a1) (by simp only [xbr]; rw [if_pos hc]) kt
  · exact T_br hz rfl rfl rfl (fun _ => rfl) (t := pc') (by simp only [xbr]; rw [if_neg hc, hp']) kf
theorem T_uif_ge {x : Int} {off : Int} (hz : zc m pc = some (.ifCond .ge off, a1, a2, c, p)) (hp' : pc + 3 = pc') (kt : TJ xs J d m a1 L r Q) (kf : TJ xs J d m pc' L r Q) : TJ xs J d m pc L (iv x :: r) Q := by
  by_cases hc : (0 : Int32) ≤ Int32.ofInt x
  · exact T_br hz rfl rfl rfl (fun _ => rfl) (t := a1) (by simp only [xbr]; rw [if_pos hc]) kt
  · exact T_br hz rfl rfl rfl (fun _ => rfl) (t := pc') (by simp only [xbr]; rw [if_neg hc, hp']) kf
theorem T_icmp_gt {x y : Int} {off : Int} (hz : zc m pc = some (.if_icmp .gt off, a1, a2, c, p)) (hx : -2147483648 ≤ x ∧ x ≤ 2147483647) (hy : -2147483648 ≤ y ∧ y ≤ 2147483647) (hp' : pc + 3 = pc') (kt : y < x → TJ xs J d m a1 L r Q) (kf : x ≤ y → TJ xs J d m pc' L r Q) : TJ xs J d m pc L (iv y :: iv x :: r) Q := by
  by_cases hc : y < x
  · exact T_br hz rfl rfl rfl (fun _ => rfl) (t := a1) (by simp only [xbr, I_lt hy hx]; rw [if_pos hc]) (kt hc)
  · exact T_br hz rfl rfl rfl (fun _ => rfl) (t := pc') (by simp only [xbr, I_lt hy hx]; rw [if_neg hc, hp']) (kf (by omega))
theorem T_if_gt {x : Int} {off : Int} (hz : zc m pc = some (.ifCond .gt off, a1, a2, c, p)) (hx : -2147483648 ≤ x ∧ x ≤ 2147483647) (hp' : pc + 3 = pc') (kt : 0 < x → TJ xs J d m a1 L r Q) (kf : x ≤ 0 → TJ xs J d m pc' L r Q) : TJ xs J d m pc L (iv x :: r) Q := by
  have hy : -2147483648 ≤ (0 : Int) ∧ (0 : Int) ≤ 2147483647 := by omega
  have h0 : (0 : Int32) = Int32.ofInt 0 := rfl
  by_cases hc : 0 < x
  · exact T_br hz rfl rfl rfl (fun _ => rfl) (t := a1) (by simp only [xbr, h0, I_lt hy hx]; rw [if_pos hc]) (kt hc)
  · exact T_br hz rfl rfl rfl (fun _ => rfl) (t := pc') (by simp only [xbr, h0, I_lt hy hx]; rw [if_neg hc, hp']) (kf (by omega))
theorem T_ucmp_gt {x y : Int} {off : Int} (hz : zc m pc = some (.if_icmp .gt off, a1, a2, c, p)) (hp' : pc + 3 = pc') (kt : TJ xs J d m a1 L r Q) (kf : TJ xs J d m pc' L r Q) : TJ xs J d m pc L (iv y :: iv x :: r) Q := by
  by_cases hc : Int32.ofInt y < Int32.ofInt x
  · exact T_br hz rfl rfl rfl (fun _ => rfl) (t := a1) (by simp only [xbr]; rw [if_pos hc]) kt
  · exact T_br hz rfl rfl rfl (fun _ => rfl) (t := pc') (by simp only [xbr]; rw [if_neg hc, hp']) kf
theorem T_uif_gt {x : Int} {off : Int} (hz : zc m pc = some (.ifCond .gt off, a1, a2, c, p)) (hp' : pc + 3 = pc') (kt : TJ xs J d m a1 L r Q) (kf : TJ xs J d m pc' L r Q) : TJ xs J d m pc L (iv x :: r) Q := by
  by_cases hc : (0 : Int32) < Int32.ofInt x
  · exact T_br hz rfl rfl rfl (fun _ => rfl) (t := a1) (by simp only [xbr]; rw [if_pos hc]) kt
  · exact T_br hz rfl rfl rfl (fun _ => rfl) (t := pc') (by simp only [xbr]; rw [if_neg hc, hp']) kf
theorem T_icmp_le {x y : Int} {off : Int} (hz : zc m pc = some (.if_icmp .le off, a1, a2, c, p)) (hx : -2147483648 ≤ x ∧ x ≤ 2147483647) (hy : -2147483648 ≤ y ∧ y ≤ 2147483647) (hp' : pc + 3 = pc') (kt : x ≤ y → TJ xs J d m a1 L r Q) (kf : y < x → TJ xs J d m pc' L r Q) : TJ xs J d m pc L (iv y :: iv x :: r) Q := by
  by_cases hc : x ≤ y
  · exact T_br hz rfl rfl rfl (fun _ => rfl) (t := a1) (by simp only [xbr, I_le hx hy]; rw [if_pos hc]) (kt hc)
  · exact T_br hz rfl rfl rfl (fun _ => rfl) (t := pc') (by simp only [xbr, I_le hx hy]; rw [if_neg hc, hp']) (kf (by omega))
theorem T_if_le {x : Int} {off : Int} (hz : zc m pc = some (.ifCond .le off, a1, a2, c, p)) (hx : -2147483648 ≤ x ∧ x ≤ 2147483647) (hp' : pc + 3 = pc') (kt : x ≤ 0 → TJ xs J d m a1 L r Q) (kf : 0 < x → TJ xs J d m pc' L r Q) : TJ xs J d m pc L (iv x :: r) Q := by
  have hy : -2147483648 ≤ (0 : Int) ∧ (0 : Int) ≤ 2147483647 := by omega
  have h0 : (0 : Int32) = Int32.ofInt 0 := rfl
  by_cases hc : x ≤ 0
  · exact T_br hz rfl rfl rfl (fun _ => rfl) (t := a1) (by simp only [xbr, h0, I_le hx hy]; rw [if_pos hc]) (kt hc)
  · exact T_br hz rfl rfl rfl (fun _ => rfl) (t := pc') (by simp only [xbr, h0, I_le hx hy]; rw [if_neg hc, hp']) (kf (by omega))
theorem T_ucmp_le {x y : Int} {off : Int} (hz : zc m pc = some (.if_icmp .le off, a1, a2, c, p)) (hp' : pc + 3 = pc') (kt : TJ xs J d m a1 L r Q) (kf : TJ xs J d m pc' L r Q) : TJ xs J d m pc L (iv y :: iv x :: r) Q := by
  by_cases hc : Int32.ofInt x ≤ Int32.ofInt y
  · exact T_br hz rfl rfl rfl (fun _ => rfl) (t := a1) (by simp only [xbr]; rw [if_pos hc]) kt
  · exact T_br hz rfl rfl rfl (fun _ => rfl) (t := pc') (by simp only [xbr]; rw [if_neg hc, hp']) kf
theorem T_uif_le {x : Int} {off : Int} (hz : zc m pc = some (.ifCond .le off, a1, a2, c, p)) (hp' : pc + 3 = pc') (kt : TJ xs J d m a1 L r Q) (kf : TJ xs J d m pc' L r Q) : TJ xs J d m pc L (iv x :: r) Q := by
  by_cases hc : Int32.ofInt x ≤ (0 : Int32)
  · exact T_br hz rfl rfl rfl (fun _ => rfl) (t := a1) (by simp only [xbr]; rw [if_pos hc]) kt
  · exact T_br hz rfl rfl rfl (fun _ => rfl) (t := pc') (by simp only [xbr]; rw [if_neg hc, hp']) kf
end LG
end
section
/-! the logic's rules on cells, calls, ends, loops -/
def slotI (t ci j : Nat) : Bool := kd t == ci && (Nat.blt j (tln t) && ((rfO t j).isNone && !(kd t == 13)))
def arrK (t kk : Nat) : Bool := kd t == kk && (rfT.getD t []).isEmpty
def arrQ (t t' im : Nat) : Bool := Nat.ble 15 (kd t) && (Nat.ble (kd t) 18 && (List.range (tln t)).all (fun j => rfO t j == some (t', im, 98)))
theorem sv_I {σ : ZS} {t ci i k j : Nat} (h : slotI t ci j = true) : sv σ t i k j = iv (σ t i k j) ∧ kd t = ci ∧ j < tln t := by
  simp only [slotI, Bool.and_eq_true, beq_iff_eq, Nat.blt_eq, Option.isNone_iff_eq_none, Bool.not_eq_true', beq_eq_false_iff_ne] at h
  obtain ⟨h1, h2, h3, h4⟩ := h
  refine ⟨?_, h1, h2⟩
  unfold sv rfx
  rw [h3]
  simp only
  rw [if_neg h4]
theorem rfO_empty {t j : Nat} (h : (rfT.getD t []).isEmpty = true) : rfO t j = none := by
  unfold rfO
  rw [List.isEmpty_iff.mp h]
  rfl
theorem sv_A {σ : ZS} {t kk i k j : Nat} (h : arrK t kk = true) (h13 : ¬ kk = 13) : sv σ t i k j = iv (σ t i k j) ∧ kd t = kk := by
  simp only [arrK, Bool.and_eq_true, beq_iff_eq] at h
  refine ⟨?_, h.1⟩
  unfold sv rfx
  rw [rfO_empty h.2]
  simp only
  rw [if_neg (by rw [h.1]; exact h13)]
theorem sv_J {σ : ZS} {t i k j : Nat} (h : arrK t 13 = true) : sv σ t i k j = jv (σ t i k j) ∧ kd t = 13 := by
  simp only [arrK, Bool.and_eq_true, beq_iff_eq] at h
  refine ⟨?_, h.1⟩
  unfold sv rfx
  rw [rfO_empty h.2]
  simp only
  rw [if_pos h.1]
theorem up_sv {σ : ZS} {t i k j : Nat} {v : Int} {w : Value} (hw : ∀ σ' : ZS, sv σ' t i k j = w → True) : True := trivial
theorem sv_up {σ : ZS} {t i k j : Nat} {v : Int} (h : ∀ σ' : ZS, sv σ' t i k j = iv (σ' t i k j)) : ∀ j', updV (sv σ t i k) j (iv v) j' = sv (up σ t i k j v) t i k j' := by
  intro j'
  by_cases hj : j' = j
  · subst hj
    rw [h, up_eq]
    simp [updV]
  · have h1 : up σ t i k j v t i k j' = σ t i k j' := up_ne (fun q => hj q.2.2.2)
    simp only [updV, if_neg hj]
    unfold sv
    rw [h1]
theorem sv_upJ {σ : ZS} {t i k j : Nat} {v : Int} (h : ∀ σ' : ZS, sv σ' t i k j = jv (σ' t i k j)) : ∀ j', updV (sv σ t i k) j (jv v) j' = sv (up σ t i k j v) t i k j' := by
  intro j'
  by_cases hj : j' = j
  · subst hj
    rw [h, up_eq]
    simp [updV]
  · have h1 : up σ t i k j v t i k j' = σ t i k j' := up_ne (fun q => hj q.2.2.2)
    simp only [updV, if_neg hj]
    unfold sv
    rw [h1]
section LH
variable {xs : Nat × (Nat → Int32)} {d m pc pc' : Nat} {L L' : XL} {st st' r : List Value} {σ σ' : ZS} {Q : Option Value → ZS → Prop} {J J' : ZS → Prop} {a1 a2 p : Nat} {c : Int} {t i k : Nat} {Pp : Int → Prop}
theorem T_getE {idx ci jj : Nat} (hz : zc m pc = some (.getfield idx, ci, jj, c, p)) (hs : slotI t ci jj = true) (hv : vd t i k) (hp' : pc + 3 = pc') (kk : ∀ y, TJ xs (fun σ => J σ ∧ σ t i k jj = y) d m pc' L (iv y :: r) Q) : TJ xs J d m pc L (av t i k :: r) Q := fun σ hJ => by
  obtain ⟨h1, h2, h3⟩ := sv_I (σ := σ) (i := i) (k := k) hs
  refine TT.step (h := []) (fun call => ?_) (kk (σ t i k jj) σ ⟨hJ, rfl⟩)
  rw [xone_hp (st' := iv (σ t i k jj) :: r) (h' := hp σ) hz rfl rfl rfl (fun _ => rfl) (fun _ => rfl) (by simp only [xhp, hp_get hv]; rw [if_pos ⟨h2, h3⟩, h1])]
  rw [show pc + zLen (.getfield idx) = pc' from hp']
theorem T_getf {idx ci jj : Nat} (hz : zc m pc = some (.getfield idx, ci, jj, c, p)) (hs : slotI t ci jj = true) (hv : vd t i k) (hP : ∀ σ, J σ → Pp (σ t i k jj)) (hp' : pc + 3 = pc') (kk : ∀ y, Pp y → TJ xs J d m pc' L (iv y :: r) Q) : TJ xs J d m pc L (av t i k :: r) Q :=
  T_getE hz hs hv hp' (fun y σ hJ => kk y (hJ.2 ▸ hP σ hJ.1) σ hJ.1)
theorem T_getR {idx ci jj t' i' k' : Nat} (hz : zc m pc = some (.getfield idx, ci, jj, c, p)) (hs : kd t = ci) (hj : Nat.blt jj (tln t) = true) (hr : rfx t i k jj = some (t', i', k')) (hv : vd t i k) (hp' : pc + 3 = pc') (kk : TJ xs J d m pc' L (av t' i' k' :: r) Q) : TJ xs J d m pc L (av t i k :: r) Q := fun σ hJ => by
  refine TT.step (h := []) (fun call => ?_) (kk σ hJ)
  rw [xone_hp (st' := av t' i' k' :: r) (h' := hp σ) hz rfl rfl rfl (fun _ => rfl) (fun _ => rfl) (by simp only [xhp, hp_get hv]; rw [if_pos ⟨hs, by simpa using hj⟩]; unfold sv; rw [hr])]
  rw [show pc + zLen (.getfield idx) = pc' from hp']
theorem T_ialdE {x : Int} (hz : zc m pc = some (.iaload, a1, a2, c, p)) (hs : arrK t 12 = true) (hv : vd t i k) (h0 : 0 ≤ x) (h1 : x < tln t) (h2 : x ≤ 2147483647) (hp' : pc + 1 = pc') (kk : ∀ y, TJ xs (fun σ => J σ ∧ σ t i k x.toNat = y) d m pc' L (iv y :: r) Q) : TJ xs J d m pc L (iv x :: av t i k :: r) Q := fun σ hJ => by
  obtain ⟨g1, g2⟩ := sv_A (σ := σ) (i := i) (k := k) (j := x.toNat) hs (by decide)
  obtain ⟨e1, e2⟩ := I_idx h0 h1 h2
  refine TT.step (h := []) (fun call => ?_) (kk (σ t i k x.toNat) σ ⟨hJ, rfl⟩)
  rw [xone_hp (st' := iv (σ t i k x.toNat) :: r) (h' := hp σ) hz rfl rfl rfl (fun _ => rfl) (fun _ => rfl) (by simp only [xhp, hp_get hv]; rw [if_pos ⟨g2, e1⟩, e2, g1]; rfl)]
  rw [show pc + zLen .iaload = pc' from hp']
theorem T_iald {x : Int} (hz : zc m pc = some (.iaload, a1, a2, c, p)) (hs : arrK t 12 = true) (hv : vd t i k) (h0 : 0 ≤ x) (h1 : x < tln t) (h2 : x ≤ 2147483647) (hP : ∀ σ, J σ → Pp (σ t i k x.toNat)) (hp' : pc + 1 = pc') (kk : ∀ y, Pp y → TJ xs J d m pc' L (iv y :: r) Q) : TJ xs J d m pc L (iv x :: av t i k :: r) Q :=
  T_ialdE hz hs hv h0 h1 h2 hp' (fun y σ hJ => kk y (hJ.2 ▸ hP σ hJ.1) σ hJ.1)
theorem T_baldE {x : Int} (hz : zc m pc = some (.baload, a1, a2, c, p)) (hs : arrK t 14 = true) (hv : vd t i k) (h0 : 0 ≤ x) (h1 : x < tln t) (h2 : x ≤ 2147483647) (hp' : pc + 1 = pc') (kk : ∀ y, TJ xs (fun σ => J σ ∧ σ t i k x.toNat = y) d m pc' L (iv y :: r) Q) : TJ xs J d m pc L (iv x :: av t i k :: r) Q := fun σ hJ => by
  obtain ⟨g1, g2⟩ := sv_A (σ := σ) (i := i) (k := k) (j := x.toNat) hs (by decide)
  obtain ⟨e1, e2⟩ := I_idx h0 h1 h2
  refine TT.step (h := []) (fun call => ?_) (kk (σ t i k x.toNat) σ ⟨hJ, rfl⟩)
  rw [xone_hp (st' := iv (σ t i k x.toNat) :: r) (h' := hp σ) hz rfl rfl rfl (fun _ => rfl) (fun _ => rfl) (by simp only [xhp, hp_get hv]; rw [if_pos ⟨g2, e1⟩, e2, g1]; rfl)]
  rw [show pc + zLen .baload = pc' from hp']
theorem T_bald {x : Int} (hz : zc m pc = some (.baload, a1, a2, c, p)) (hs : arrK t 14 = true) (hv : vd t i k) (h0 : 0 ≤ x) (h1 : x < tln t) (h2 : x ≤ 2147483647) (hP : ∀ σ, J σ → Pp (σ t i k x.toNat)) (hp' : pc + 1 = pc') (kk : ∀ y, Pp y → TJ xs J d m pc' L (iv y :: r) Q) : TJ xs J d m pc L (iv x :: av t i k :: r) Q :=
  T_baldE hz hs hv h0 h1 h2 hp' (fun y σ hJ => kk y (hJ.2 ▸ hP σ hJ.1) σ hJ.1)
theorem T_laldE {x : Int} (hz : zc m pc = some (.laload, a1, a2, c, p)) (hs : arrK t 13 = true) (hv : vd t i k) (h0 : 0 ≤ x) (h1 : x < tln t) (h2 : x ≤ 2147483647) (hp' : pc + 1 = pc') (kk : ∀ y, TJ xs (fun σ => J σ ∧ σ t i k x.toNat = y) d m pc' L (jv y :: r) Q) : TJ xs J d m pc L (iv x :: av t i k :: r) Q := fun σ hJ => by
  obtain ⟨g1, g2⟩ := sv_J (σ := σ) (i := i) (k := k) (j := x.toNat) hs
  obtain ⟨e1, e2⟩ := I_idx h0 h1 h2
  refine TT.step (h := []) (fun call => ?_) (kk (σ t i k x.toNat) σ ⟨hJ, rfl⟩)
  rw [xone_hp (st' := jv (σ t i k x.toNat) :: r) (h' := hp σ) hz rfl rfl rfl (fun _ => rfl) (fun _ => rfl) (by simp only [xhp, hp_get hv]; rw [if_pos ⟨g2, e1⟩, e2, g1]; rfl)]
  rw [show pc + zLen .laload = pc' from hp']
theorem T_aald {x : Int} {t' im i' : Nat} (hz : zc m pc = some (.aaload, a1, a2, c, p)) (hs : arrQ t t' im = true) (hi : ixi im i = i') (hv : vd t i k) (h0 : 0 ≤ x) (h1 : x < tln t) (h2 : x ≤ 2147483647) (hp' : pc + 1 = pc') (kk : TJ xs J d m pc' L (av t' i' x.toNat :: r) Q) : TJ xs J d m pc L (iv x :: av t i k :: r) Q := fun σ hJ => by
  simp only [arrQ, Bool.and_eq_true, Nat.ble_eq, List.all_eq_true, List.mem_range, beq_iff_eq] at hs
  obtain ⟨g1, g2, g3⟩ := hs
  obtain ⟨e1, e2⟩ := I_idx h0 h1 h2
  have e3 : sv σ t i k x.toNat = av t' i' x.toNat := by
    unfold sv rfx
    rw [g3 x.toNat (by omega)]
    simp only [hi]
    rfl
  refine TT.step (h := []) (fun call => ?_) (kk σ hJ)
  rw [xone_hp (st' := av t' i' x.toNat :: r) (h' := hp σ) hz rfl rfl rfl (fun _ => rfl) (fun _ => rfl) (by simp only [xhp, hp_get hv]; rw [if_pos ⟨g1, g2, e1⟩, e2, e3]; rfl)]
  rw [show pc + zLen .aaload = pc' from hp']
theorem T_alen {n : Int} (hz : zc m pc = some (.arraylength, a1, a2, c, p)) (hs : (Nat.ble 12 (kd t) && Nat.ble (kd t) 18) = true) (hn : (tln t : Int) = n) (hv : vd t i k) (hp' : pc + 1 = pc') (kk : TJ xs J d m pc' L (iv n :: r) Q) : TJ xs J d m pc L (av t i k :: r) Q := fun σ hJ => by
  simp only [Bool.and_eq_true, Nat.ble_eq] at hs
  subst hn
  refine TT.step (h := []) (fun call => ?_) (kk σ hJ)
  rw [xone_hp (st' := iv (tln t) :: r) (h' := hp σ) hz rfl rfl rfl (fun _ => rfl) (fun _ => rfl) (by simp only [xhp, hp_get hv]; rw [if_pos hs]; rfl)]
  rw [show pc + zLen .arraylength = pc' from hp']
theorem T_putf {idx ci jj : Nat} {v : Int} (hz : zc m pc = some (.putfield idx, ci, jj, c, p)) (hs : slotI t ci jj = true) (hf : zFt ci jj = 0) (hv : vd t i k) (hJ' : ∀ σ, J σ → J' (up σ t i k jj v)) (hp' : pc + 3 = pc') (kk : TJ xs J' d m pc' L r Q) : TJ xs J d m pc L (iv v :: av t i k :: r) Q := fun σ hJ => by
  obtain ⟨h1, h2, h3⟩ := sv_I (σ := σ) (i := i) (k := k) hs
  refine TT.step (h := []) (fun call => ?_) (kk _ (hJ' σ hJ))
  rw [xone_hp (st' := r) (h' := hp (up σ t i k jj v)) hz rfl rfl rfl (fun _ => rfl) (fun _ => rfl) (by simp only [xhp, hp_get hv]; rw [if_pos ⟨h2, h3, by rw [hf]; rfl, by rw [hf]; intro q; cases q⟩, hp_set hv (sv_up (fun σ' => (sv_I hs).1)) up_oth])]
  rw [show pc + zLen (.putfield idx) = pc' from hp']
theorem T_putz {idx ci jj : Nat} {v : Int} (hz : zc m pc = some (.putfield idx, ci, jj, c, p)) (hs : slotI t ci jj = true) (hf : zFt ci jj = 1) (hb : v = 0 ∨ v = 1) (hv : vd t i k) (hJ' : ∀ σ, J σ → J' (up σ t i k jj v)) (hp' : pc + 3 = pc') (kk : TJ xs J' d m pc' L r Q) : TJ xs J d m pc L (iv v :: av t i k :: r) Q := fun σ hJ => by
  obtain ⟨h1, h2, h3⟩ := sv_I (σ := σ) (i := i) (k := k) hs
  refine TT.step (h := []) (fun call => ?_) (kk _ (hJ' σ hJ))
  rw [xone_hp (st' := r) (h' := hp (up σ t i k jj v)) hz rfl rfl rfl (fun _ => rfl) (fun _ => rfl) (by simp only [xhp, hp_get hv]; rw [if_pos ⟨h2, h3, by rw [hf]; rcases hb with rfl | rfl <;> rfl, by rw [hf]; intro q; cases q⟩, hp_set hv (sv_up (fun σ' => (sv_I hs).1)) up_oth])]
  rw [show pc + zLen (.putfield idx) = pc' from hp']
theorem T_iast {x v : Int} (hz : zc m pc = some (.iastore, a1, a2, c, p)) (hs : arrK t 12 = true) (hv : vd t i k) (h0 : 0 ≤ x) (h1 : x < tln t) (h2 : x ≤ 2147483647) (hJ' : ∀ σ, J σ → J' (up σ t i k x.toNat v)) (hp' : pc + 1 = pc') (kk : TJ xs J' d m pc' L r Q) : TJ xs J d m pc L (iv v :: iv x :: av t i k :: r) Q := fun σ hJ => by
  obtain ⟨g1, g2⟩ := sv_A (σ := σ) (i := i) (k := k) (j := x.toNat) hs (by decide)
  obtain ⟨e1, e2⟩ := I_idx h0 h1 h2
  refine TT.step (h := []) (fun call => ?_) (kk _ (hJ' σ hJ))
  rw [xone_hp (st' := r) (h' := hp (up σ t i k x.toNat v)) hz rfl rfl rfl (fun _ => rfl) (fun _ => rfl) (by simp only [xhp, hp_get hv]; rw [if_pos ⟨g2, e1⟩, e2, hp_set hv (sv_up (fun σ' => (sv_A hs (by decide)).1)) up_oth])]
  rw [show pc + zLen .iastore = pc' from hp']
theorem nar_01 {v : Int} (hb : v = 0 ∨ v = 1) : vp_nar .boolean (Int32.ofInt v) = Int32.ofInt v := by rcases hb with rfl | rfl <;> rfl
theorem T_bast {x v : Int} (hz : zc m pc = some (.bastore, a1, a2, c, p)) (hs : arrK t 14 = true) (hb : v = 0 ∨ v = 1) (hv : vd t i k) (h0 : 0 ≤ x) (h1 : x < tln t) (h2 : x ≤ 2147483647) (hJ' : ∀ σ, J σ → J' (up σ t i k x.toNat v)) (hp' : pc + 1 = pc') (kk : TJ xs J' d m pc' L r Q) : TJ xs J d m pc L (iv v :: iv x :: av t i k :: r) Q := fun σ hJ => by
  obtain ⟨g1, g2⟩ := sv_A (σ := σ) (i := i) (k := k) (j := x.toNat) hs (by decide)
  obtain ⟨e1, e2⟩ := I_idx h0 h1 h2
  refine TT.step (h := []) (fun call => ?_) (kk _ (hJ' σ hJ))
  rw [xone_hp (st' := r) (h' := hp (up σ t i k x.toNat v)) hz rfl rfl rfl (fun _ => rfl) (fun _ => rfl) (by simp only [xhp, hp_get hv]; rw [if_pos ⟨g2, e1⟩, e2, nar_01 hb, hp_set hv (sv_up (fun σ' => (sv_A hs (by decide)).1)) up_oth])]
  rw [show pc + zLen .bastore = pc' from hp']
theorem T_last {x v : Int} (hz : zc m pc = some (.lastore, a1, a2, c, p)) (hs : arrK t 13 = true) (hv : vd t i k) (h0 : 0 ≤ x) (h1 : x < tln t) (h2 : x ≤ 2147483647) (hJ' : ∀ σ, J σ → J' (up σ t i k x.toNat v)) (hp' : pc + 1 = pc') (kk : TJ xs J' d m pc' L r Q) : TJ xs J d m pc L (jv v :: iv x :: av t i k :: r) Q := fun σ hJ => by
  obtain ⟨g1, g2⟩ := sv_J (σ := σ) (i := i) (k := k) (j := x.toNat) hs
  obtain ⟨e1, e2⟩ := I_idx h0 h1 h2
  refine TT.step (h := []) (fun call => ?_) (kk _ (hJ' σ hJ))
  rw [xone_hp (st' := r) (h' := hp (up σ t i k x.toNat v)) hz rfl rfl rfl (fun _ => rfl) (fun _ => rfl) (by simp only [xhp, hp_get hv]; rw [if_pos ⟨g2, e1⟩, e2, hp_set hv (sv_upJ (fun σ' => (sv_J hs).1)) up_oth])]
  rw [show pc + zLen .lastore = pc' from hp']
theorem T_ldc {i' : Nat} {n : Int} (hz : zc m pc = some (.ldc i', a1, a2, n, p)) (hp' : pc + 2 = pc') (kk : TJ xs J d m pc' L (iv n :: st) Q) : TJ xs J d m pc L st Q := fun σ hJ => by
  refine TT.step (h := []) (fun call => ?_) (kk σ hJ)
  rw [xone_hp (st' := iv n :: st) (h' := hp σ) hz rfl rfl rfl (fun _ => rfl) (fun _ => rfl) rfl, show pc + zLen (.ldc i') = pc' from hp']
theorem T_ldcw {i' : Nat} {n : Int} (hz : zc m pc = some (.ldc_w i', a1, a2, n, p)) (hp' : pc + 3 = pc') (kk : TJ xs J d m pc' L (iv n :: st) Q) : TJ xs J d m pc L st Q := fun σ hJ => by
  refine TT.step (h := []) (fun call => ?_) (kk σ hJ)
  rw [xone_hp (st' := iv n :: st) (h' := hp σ) hz rfl rfl rfl (fun _ => rfl) (fun _ => rfl) rfl, show pc + zLen (.ldc_w i') = pc' from hp']
theorem T_ldc2 {i' : Nat} {n : Int} (hz : zc m pc = some (.ldc2_w i', a1, a2, n, p)) (hp' : pc + 3 = pc') (kk : TJ xs J d m pc' L (jv n :: st) Q) : TJ xs J d m pc L st Q := fun σ hJ => by
  refine TT.step (h := []) (fun call => ?_) (kk σ hJ)
  rw [xone_hp (st' := jv n :: st) (h' := hp σ) hz rfl rfl rfl (fun _ => rfl) (fun _ => rfl) rfl, show pc + zLen (.ldc2_w i') = pc' from hp']
/-- a method's end -/
theorem TT.out {v : Option Value} {en : zE} (hz : zc m pc = some en) (h1 : xinv en.1 = false) (h2 : xop en.1 st = none) (h3 : xld en.1 L = none) (h4 : ∀ n, xst n en.1 L st = none) (h5 : ∀ t, xbr en.1 t pc st = none) (h6 : ∀ xs ini o h, xhp xs ini o en st h = none) (h7 : xrt (zMr m) en.1 st = some v) (hQ : Q v σ) : TT xs d m pc L st σ Q := by
  refine ⟨1, v, σ, ?_, hQ⟩
  simp only [xgo]
  have : xone xs (xrun xs 1 d) m pc L st (hp σ) = some (.inr (v, hp σ)) := by
    unfold xone
    rw [hz]
    dsimp only
    rw [h1, if_neg (by decide), h2]
    dsimp only
    rw [h3]
    dsimp only
    rw [h4]
    dsimp only
    rw [h5]
    dsimp only
    rw [h6]
    dsimp only
    rw [h7]
  rw [this]
theorem T_iret {x : Int} (hz : zc m pc = some (.ireturn, a1, a2, c, p)) (hr : zMr m = some .int) (hQ : ∀ σ, J σ → Q (some (iv x)) σ) : TJ xs J d m pc L [iv x] Q := fun σ hJ => TT.out hz rfl rfl rfl (fun _ => rfl) (fun _ => rfl) (fun _ _ _ _ => rfl) (by simp only [xrt]; rw [if_pos (Or.inl hr)]) (hQ σ hJ)
theorem T_zret {x : Int} (hz : zc m pc = some (.ireturn, a1, a2, c, p)) (hr : zMr m = some .boolean) (hb : x = 0 ∨ x = 1) (hQ : ∀ σ, J σ → Q (some (iv x)) σ) : TJ xs J d m pc L [iv x] Q := fun σ hJ => TT.out hz rfl rfl rfl (fun _ => rfl) (fun _ => rfl) (fun _ _ _ _ => rfl) (by simp only [xrt]; rw [if_pos (Or.inr ⟨hr, hb.elim (fun q => Or.inl (by rw [q]; rfl)) (fun q => Or.inr (by rw [q]; rfl))⟩)]) (hQ σ hJ)
theorem T_lret {x : Int} (hz : zc m pc = some (.lreturn, a1, a2, c, p)) (hr : zMr m = some .long) (hQ : ∀ σ, J σ → Q (some (jv x)) σ) : TJ xs J d m pc L [jv x] Q := fun σ hJ => TT.out hz rfl rfl rfl (fun _ => rfl) (fun _ => rfl) (fun _ _ _ _ => rfl) (by simp only [xrt]; rw [if_pos hr]) (hQ σ hJ)
theorem T_aret {C : String} (hz : zc m pc = some (.areturn, a1, a2, c, p)) (hr : zMr m = some (.object C)) (hQ : ∀ σ, J σ → Q (some (av t i k)) σ) : TJ xs J d m pc L [av t i k] Q := fun σ hJ => TT.out hz rfl rfl rfl (fun _ => rfl) (fun _ => rfl) (fun _ _ _ _ => rfl) (by simp only [xrt, hr]) (hQ σ hJ)
theorem T_vret (hz : zc m pc = some (.return_, a1, a2, c, p)) (hr : zMr m = none) (hQ : ∀ σ, J σ → Q none σ) : TJ xs J d m pc L [] Q := fun σ hJ => TT.out hz rfl rfl rfl (fun _ => rfl) (fun _ => rfl) (fun _ _ _ _ => rfl) (by simp only [xrt]; rw [if_pos hr]) (hQ σ hJ)
/-- a call -/
def xrv (k ci : Nat) (a : List Value) : Prop := (k = 1 ∨ k = 3) ∨ ∃ t i k' As, a = av t i k' :: As ∧ vd t i k' ∧ kd t = ci
theorem xrv_ok {k ci : Nat} {a : List Value} (h : xrv k ci a) (σ : ZS) : xrcv k ci a (hp σ) = true := by
  unfold xrcv
  rcases h with h | ⟨t, i, k', As, rfl, hv, hk⟩
  · rw [if_pos h]
  · split
    · rfl
    · simp only [hp_get hv, hk, beq_self_eq_true]
theorem TT.call {ii : Instr} {cal mode : Nat} {N : Int} {a : List Value} {Q1 : Option Value → ZS → Prop} (hz : zc m pc = some (ii, cal, mode, N, p)) (hi : xinv ii = true) (hm : Nat.blt mode 5 = true) (ha : (st.take N.toNat).reverse = a) (hr : st.drop N.toNat = r) (hl : Nat.ble N.toNat st.length = true) (hcat : Nat.ble (r.map fun v => v.category).sum 8 = true) (hv : xrv mode (zMo cal) a) (hC : CT xs d cal a σ Q1) (kk : ∀ v σ', Q1 v σ' → TT xs d m (pc + 3) L (v.toList ++ r) σ' Q) : TT xs d m pc L st σ Q := by
  obtain ⟨n1, v, σ', h1, h2⟩ := hC
  obtain ⟨n2, v2, σ2, h3, h4⟩ := kk v σ' h2
  refine ⟨max n1 n2 + 1, v2, σ2, ?_, h4⟩
  have hx : xone xs (xrun xs (max n1 n2 + 1) d) m pc L st (hp σ) = some (.inl (pc + 3, L, v.toList ++ r, hp σ')) := by
    unfold xone
    rw [hz]
    dsimp only
    rw [if_pos hi, if_pos (by simpa using hm)]
    simp only [xcall]
    rw [ha, hr, if_pos ⟨by simpa using hl, by simpa using hcat, xrv_ok hv σ⟩, xrun_sub (Nat.le_succ_of_le (Nat.le_max_left n1 n2)) (Nat.le_refl d) _ _ _ _ h1]
  simp only [xgo, hx]
  exact xgo_sub (xrun_sub (Nat.le_succ_of_le (Nat.le_max_right n1 n2)) (Nat.le_refl d)) (Nat.le_max_right n1 n2) h3
theorem T_calli {ii : Instr} {cal mode : Nat} {N : Int} {a : List Value} {K : Int → ZS → Prop} (hz : zc m pc = some (ii, cal, mode, N, p)) (hi : xinv ii = true) (hm : Nat.blt mode 5 = true) (ha : (st.take N.toNat).reverse = a) (hr : st.drop N.toNat = r) (hl : Nat.ble N.toNat st.length = true) (hcat : Nat.ble (r.map fun v => v.category).sum 8 = true) (hv : xrv mode (zMo cal) a) (hC : ∀ σ, J σ → CT xs d cal a σ (fun v σ' => ∃ y, v = some (iv y) ∧ K y σ')) (hp' : pc + 3 = pc') (kk : ∀ y, TJ xs (K y) d m pc' L (iv y :: r) Q) : TJ xs J d m pc L st Q := fun σ hJ =>
  TT.call hz hi hm ha hr hl hcat hv (hC σ hJ) (fun v σ' ⟨y, hy, hK⟩ => by subst hy; subst hp'; exact kk y σ' hK)
theorem T_calll {ii : Instr} {cal mode : Nat} {N : Int} {a : List Value} {K : Int → ZS → Prop} (hz : zc m pc = some (ii, cal, mode, N, p)) (hi : xinv ii = true) (hm : Nat.blt mode 5 = true) (ha : (st.take N.toNat).reverse = a) (hr : st.drop N.toNat = r) (hl : Nat.ble N.toNat st.length = true) (hcat : Nat.ble (r.map fun v => v.category).sum 8 = true) (hv : xrv mode (zMo cal) a) (hC : ∀ σ, J σ → CT xs d cal a σ (fun v σ' => ∃ y, v = some (jv y) ∧ K y σ')) (hp' : pc + 3 = pc') (kk : ∀ y, TJ xs (K y) d m pc' L (jv y :: r) Q) : TJ xs J d m pc L st Q := fun σ hJ =>
  TT.call hz hi hm ha hr hl hcat hv (hC σ hJ) (fun v σ' ⟨y, hy, hK⟩ => by subst hy; subst hp'; exact kk y σ' hK)
theorem T_callv {ii : Instr} {cal mode : Nat} {N : Int} {a : List Value} (hz : zc m pc = some (ii, cal, mode, N, p)) (hi : xinv ii = true) (hm : Nat.blt mode 5 = true) (ha : (st.take N.toNat).reverse = a) (hr : st.drop N.toNat = r) (hl : Nat.ble N.toNat st.length = true) (hcat : Nat.ble (r.map fun v => v.category).sum 8 = true) (hv : xrv mode (zMo cal) a) (hC : ∀ σ, J σ → CT xs d cal a σ (fun v σ' => v = none ∧ J' σ')) (hp' : pc + 3 = pc') (kk : TJ xs J' d m pc' L r Q) : TJ xs J d m pc L st Q := fun σ hJ =>
  TT.call hz hi hm ha hr hl hcat hv (hC σ hJ) (fun v σ' ⟨hy, hK⟩ => by subst hy; subst hp'; exact kk σ' hK)
/-- max, min, abs, copying -/
theorem xone_nat {call : XF} {h h' : XH} {en : zE} (hz : zc m pc = some en) (h1 : xinv en.1 = true) (h2 : Nat.blt en.2.2.1 5 = false) (h3 : xnat en.2.2.1 st h = some (st', h')) : xone xs call m pc L st h = some (.inl (pc + 3, L, st', h')) := by
  unfold xone
  rw [hz]
  dsimp only
  rw [if_pos h1, if_neg (by intro q; rw [Nat.blt_eq.mpr q] at h2; cases h2), h3]
theorem xnat_7 {x y : Int32} {h : XH} (hc : (r.map fun v => v.category).sum ≤ 8) : xnat 7 (.int y :: .int x :: r) h = some (.int (if x < y then y else x) :: r, h) := by simp [xnat, hc]
theorem xnat_8 {x y : Int32} {h : XH} (hc : (r.map fun v => v.category).sum ≤ 8) : xnat 8 (.int y :: .int x :: r) h = some (.int (if y < x then y else x) :: r, h) := by simp [xnat, hc]
theorem xnat_9 {x : Int32} {h : XH} (hc : (r.map fun v => v.category).sum ≤ 8) : xnat 9 (.int x :: r) h = some (.int (if 0 ≤ x then x else 0 - x) :: r, h) := by simp [xnat, hc]
theorem T_max {ii : Instr} {x y : Int} (hz : zc m pc = some (ii, a1, 7, c, p)) (h1 : xinv ii = true) (hx : -2147483648 ≤ x ∧ x ≤ 2147483647) (hy : -2147483648 ≤ y ∧ y ≤ 2147483647) (hcat : Nat.ble (r.map fun v => v.category).sum 8 = true) (hp' : pc + 3 = pc') (kk : ∀ z, x ≤ z → y ≤ z → (z = x ∨ z = y) → TJ xs J d m pc' L (iv z :: r) Q) : TJ xs J d m pc L (iv y :: iv x :: r) Q := fun σ hJ => by
  have hc : (r.map fun v => v.category).sum ≤ 8 := by simpa using hcat
  by_cases hlt : x < y
  · refine TT.step (h := []) (fun call => ?_) (kk y (by omega) (by omega) (Or.inr rfl) σ hJ)
    rw [xone_nat (st' := iv y :: r) (h' := hp σ) hz h1 rfl (by rw [xnat_7 hc, if_pos ((I_lt hx hy).mpr hlt)]), hp']
  · refine TT.step (h := []) (fun call => ?_) (kk x (by omega) (by omega) (Or.inl rfl) σ hJ)
    rw [xone_nat (st' := iv x :: r) (h' := hp σ) hz h1 rfl (by rw [xnat_7 hc, if_neg (fun q => hlt ((I_lt hx hy).mp q))]), hp']
theorem T_min {ii : Instr} {x y : Int} (hz : zc m pc = some (ii, a1, 8, c, p)) (h1 : xinv ii = true) (hx : -2147483648 ≤ x ∧ x ≤ 2147483647) (hy : -2147483648 ≤ y ∧ y ≤ 2147483647) (hcat : Nat.ble (r.map fun v => v.category).sum 8 = true) (hp' : pc + 3 = pc') (kk : ∀ z, z ≤ x → z ≤ y → (z = x ∨ z = y) → TJ xs J d m pc' L (iv z :: r) Q) : TJ xs J d m pc L (iv y :: iv x :: r) Q := fun σ hJ => by
  have hc : (r.map fun v => v.category).sum ≤ 8 := by simpa using hcat
  by_cases hlt : y < x
  · refine TT.step (h := []) (fun call => ?_) (kk y (by omega) (by omega) (Or.inr rfl) σ hJ)
    rw [xone_nat (st' := iv y :: r) (h' := hp σ) hz h1 rfl (by rw [xnat_8 hc, if_pos ((I_lt hy hx).mpr hlt)]), hp']
  · refine TT.step (h := []) (fun call => ?_) (kk x (by omega) (by omega) (Or.inl rfl) σ hJ)
    rw [xone_nat (st' := iv x :: r) (h' := hp σ) hz h1 rfl (by rw [xnat_8 hc, if_neg (fun q => hlt ((I_lt hy hx).mp q))]), hp']
theorem T_mmU {ii : Instr} {x y : Int} {kn : Nat} (hz : zc m pc = some (ii, a1, kn, c, p)) (h1 : xinv ii = true) (hk : kn = 7 ∨ kn = 8) (hcat : Nat.ble (r.map fun v => v.category).sum 8 = true) (hp' : pc + 3 = pc') (kk : ∀ z, (z = x ∨ z = y) → TJ xs J d m pc' L (iv z :: r) Q) : TJ xs J d m pc L (iv y :: iv x :: r) Q := fun σ hJ => by
  have hc : (r.map fun v => v.category).sum ≤ 8 := by simpa using hcat
  have h : xnat kn (iv y :: iv x :: r) (hp σ) = some (iv y :: r, hp σ) ∨ xnat kn (iv y :: iv x :: r) (hp σ) = some (iv x :: r, hp σ) := by
    rcases hk with rfl | rfl
    · by_cases hlt : Int32.ofInt x < Int32.ofInt y
      · exact Or.inl (by rw [xnat_7 hc, if_pos hlt])
      · exact Or.inr (by rw [xnat_7 hc, if_neg hlt])
    · by_cases hlt : Int32.ofInt y < Int32.ofInt x
      · exact Or.inl (by rw [xnat_8 hc, if_pos hlt])
      · exact Or.inr (by rw [xnat_8 hc, if_neg hlt])
  have hb : Nat.blt kn 5 = false := by rcases hk with rfl | rfl <;> rfl
  rcases h with h | h
  · exact TT.step (h := []) (fun call => by rw [xone_nat hz h1 hb h, hp']) (kk y (Or.inr rfl) σ hJ)
  · exact TT.step (h := []) (fun call => by rw [xone_nat hz h1 hb h, hp']) (kk x (Or.inl rfl) σ hJ)
theorem T_absU {ii : Instr} {x : Int} (hz : zc m pc = some (ii, a1, 9, c, p)) (h1 : xinv ii = true) (hcat : Nat.ble (r.map fun v => v.category).sum 8 = true) (hp' : pc + 3 = pc') (kk : ∀ z, (x = 0 → z = 0) → TJ xs J d m pc' L (iv z :: r) Q) : TJ xs J d m pc L (iv x :: r) Q := fun σ hJ => by
  have hc : (r.map fun v => v.category).sum ≤ 8 := by simpa using hcat
  by_cases h0 : (0 : Int32) ≤ Int32.ofInt x
  · exact TT.step (h := []) (fun call => by rw [xone_nat (st' := iv x :: r) (h' := hp σ) hz h1 rfl (by rw [xnat_9 hc, if_pos h0]), hp']) (kk x (fun q => q) σ hJ)
  · refine TT.step (h := []) (fun call => ?_) (kk (0 - x) (fun q => by omega) σ hJ)
    rw [xone_nat (st' := iv (0 - x) :: r) (h' := hp σ) hz h1 rfl (by rw [xnat_9 hc, if_neg h0]; simp [Int32.ofInt_sub]), hp']
end LH
/-- a loop -/
theorem T_loop {α : Type} (mu : α → Nat) (P G : α → Prop) (h : ∀ a, P a → (∀ b, P b → mu b < mu a → G b) → G a) : ∀ a, P a → G a := by
  have H : ∀ n a, mu a < n → P a → G a := by
    intro n
    induction n with
    | zero => intro a ha; exact absurd ha (Nat.not_lt_zero _)
    | succ n ih => intro a ha hP; exact h a hP (fun b hb hlt => ih b (by omega) hb)
  intro a hP
  exact H (mu a + 1) a (Nat.lt_succ_self _) hP
end
section
/-! behind the constructors: the cells as the layout has them; what lies outside a cell's length says nothing -/
def σ0 : ZS := fun t _ k j =>
  if t = 0 then (if j = 7 then -1 else 0)
  else if t = 1 then (if j = 11 then 9 else 0)
  else if t = 3 then 20 else if t = 5 then 1000 else if t = 7 then -1
  else if t = 26 then (if j = 5 then -1 else 0)
  else if t = 35 then (if j = 16 then -1 else 0)
  else if t = 36 ∧ k = 0 then (if j < 25 then 20 else if 50 ≤ j ∧ j < 75 then 1000 else if 200 ≤ j ∧ j < 250 then -1 else if j = 638 then 9 else 0)
  else 0
def hR (h1 h2 : XH) : Prop := h1.length = h2.length ∧ ∀ (n : Nat) (c1 c2 : XC), h1[n]? = some c1 → h2[n]? = some c2 → c1.1 = c2.1 ∧ c1.2.1 = c2.2.1 ∧ ∀ j, j < c1.2.1 → c1.2.2 j = c2.2.2 j
def hEq (h1 h2 : XH) : Bool := h1.length == h2.length && (h1.zip h2).all (fun q => q.1.1 == q.2.1 && (q.1.2.1 == q.2.2.1 && (List.range q.1.2.1).all (fun j => decide (q.1.2.2 j = q.2.2.2 j))))
theorem hEq_R {h1 h2 : XH} (h : hEq h1 h2 = true) : hR h1 h2 := by
  simp only [hEq, Bool.and_eq_true, beq_iff_eq] at h
  refine ⟨h.1, fun n c1 c2 g1 g2 => ?_⟩
  have hz : (h1.zip h2)[n]? = some (c1, c2) := by rw [List.getElem?_zip_eq_some]; exact ⟨g1, g2⟩
  have h3 := List.all_eq_true.mp h.2 _ (List.mem_of_getElem? hz)
  simp only [Bool.and_eq_true, beq_iff_eq, List.all_eq_true, List.mem_range, decide_eq_true_eq] at h3
  exact h3
theorem hR.get {h1 h2 : XH} (h : hR h1 h2) {n : Nat} {c : XC} (hc : h1[n]? = some c) : ∃ f, h2[n]? = some (c.1, c.2.1, f) ∧ ∀ j, j < c.2.1 → c.2.2 j = f j := by
  have hl : n < h2.length := by rw [← h.1]; exact (List.getElem?_eq_some_iff.mp hc).1
  have h3 : h2[n]? = some h2[n] := List.getElem?_eq_getElem hl
  obtain ⟨g1, g2, g3⟩ := h.2 n c _ hc h3
  refine ⟨h2[n].2.2, ?_, g3⟩
  rw [h3, g1, g2]
theorem hR.set {h1 h2 : XH} (h : hR h1 h2) {n k l : Nat} {f g : Nat → Value} (hfg : ∀ j, j < l → f j = g j) : hR (h1.set n (k, l, f)) (h2.set n (k, l, g)) := by
  refine ⟨by simpa using h.1, fun q c1 c2 g1 g2 => ?_⟩
  rw [List.getElem?_set] at g1 g2
  by_cases hq : n = q
  · rw [if_pos hq] at g1 g2
    split at g1
    · split at g2
      · cases g1; cases g2; exact ⟨rfl, rfl, hfg⟩
      · cases g2
    · cases g1
  · rw [if_neg hq] at g1 g2
    exact h.2 q c1 c2 g1 g2
theorem hR.app {h1 h2 : XH} (h : hR h1 h2) {c : XC} : hR (h1 ++ [c]) (h2 ++ [c]) := by
  refine ⟨by simpa using h.1, fun q c1 c2 g1 g2 => ?_⟩
  by_cases hq : q < h1.length
  · rw [List.getElem?_append_left hq] at g1
    rw [List.getElem?_append_left (by rw [← h.1]; exact hq)] at g2
    exact h.2 q c1 c2 g1 g2
  · rw [List.getElem?_append_right (by omega)] at g1
    rw [List.getElem?_append_right (by rw [← h.1]; omega), ← h.1] at g2
    rw [g1] at g2
    cases g2
    exact ⟨rfl, rfl, fun _ _ => rfl⟩
theorem updV_R {f g : Nat → Value} {l k : Nat} {v : Value} (h : ∀ j, j < l → f j = g j) : ∀ j, j < l → updV f k v j = updV g k v j := by
  intro j hj
  simp only [updV]
  split
  · rfl
  · exact h j hj
theorem idx_lt {i : Int32} {n : Nat} (h : ¬ (i < 0 ∨ n ≤ i.toNatClampNeg)) : i.toNatClampNeg < n := Nat.not_le.mp (fun q => h (Or.inr q))
theorem xhp_R {xs : Nat × (Nat → Int32)} {ini : Bool} {o : Nat} {en : zE} {st st' : List Value} {h1 h2 h1' : XH} (hr : hR h1 h2) (ho : xhp xs ini o en st h1 = some (st', h1')) : ∃ h2', xhp xs ini o en st h2 = some (st', h2') ∧ hR h1' h2' := by
  obtain ⟨i1, a1, a2, cst, pos⟩ := en
  cases i1
  case getfield i =>
    simp only [xhp] at ho
    split at ho
    · split at ho
      · rename_i cc hcc
        split at ho
        · rename_i hc
          cases ho
          obtain ⟨f, g1, g2⟩ := hr.get hcc
          exact ⟨h2, by simp only [xhp, g1]; rw [if_pos hc, g2 _ hc.2], hr⟩
        · cases ho
      · cases ho
    · cases ho
  case putfield i =>
    simp only [xhp] at ho
    split at ho
    · split at ho
      · rename_i cc hcc
        split at ho
        · rename_i hc
          cases ho
          obtain ⟨f, g1, g2⟩ := hr.get hcc
          exact ⟨_, by simp only [xhp, g1]; rw [if_pos hc], hr.set (updV_R g2)⟩
        · cases ho
      · cases ho
    · cases ho
  case iaload =>
    simp only [xhp] at ho
    split at ho
    · split at ho
      · rename_i hc
        cases ho
        exact ⟨h2, by simp only [xhp]; rw [if_pos hc], hr⟩
      · cases ho
    · split at ho
      · rename_i cc hcc
        split at ho
        · rename_i hc
          cases ho
          obtain ⟨f, g1, g2⟩ := hr.get hcc
          exact ⟨h2, by simp only [xhp, g1]; rw [if_pos hc, g2 _ (idx_lt hc.2)], hr⟩
        · cases ho
      · cases ho
    · cases ho
  case baload =>
    simp only [xhp] at ho
    split at ho
    · split at ho
      · rename_i cc hcc
        split at ho
        · rename_i hc
          cases ho
          obtain ⟨f, g1, g2⟩ := hr.get hcc
          exact ⟨h2, by simp only [xhp, g1]; rw [if_pos hc, g2 _ (idx_lt hc.2)], hr⟩
        · cases ho
      · cases ho
    · cases ho
  case laload =>
    simp only [xhp] at ho
    split at ho
    · split at ho
      · rename_i cc hcc
        split at ho
        · rename_i hc
          cases ho
          obtain ⟨f, g1, g2⟩ := hr.get hcc
          exact ⟨h2, by simp only [xhp, g1]; rw [if_pos hc, g2 _ (idx_lt hc.2)], hr⟩
        · cases ho
      · cases ho
    · cases ho
  case aaload =>
    simp only [xhp] at ho
    split at ho
    · split at ho
      · rename_i cc hcc
        split at ho
        · rename_i hc
          cases ho
          obtain ⟨f, g1, g2⟩ := hr.get hcc
          exact ⟨h2, by simp only [xhp, g1]; rw [if_pos hc, g2 _ (idx_lt hc.2.2)], hr⟩
        · cases ho
      · cases ho
    · cases ho
  case iastore =>
    simp only [xhp] at ho
    split at ho
    · split at ho
      · rename_i cc hcc
        split at ho
        · rename_i hc
          cases ho
          obtain ⟨f, g1, g2⟩ := hr.get hcc
          exact ⟨_, by simp only [xhp, g1]; rw [if_pos hc], hr.set (updV_R g2)⟩
        · cases ho
      · cases ho
    · cases ho
  case bastore =>
    simp only [xhp] at ho
    split at ho
    · split at ho
      · rename_i cc hcc
        split at ho
        · rename_i hc
          cases ho
          obtain ⟨f, g1, g2⟩ := hr.get hcc
          exact ⟨_, by simp only [xhp, g1]; rw [if_pos hc], hr.set (updV_R g2)⟩
        · cases ho
      · cases ho
    · cases ho
  case lastore =>
    simp only [xhp] at ho
    split at ho
    · split at ho
      · rename_i cc hcc
        split at ho
        · rename_i hc
          cases ho
          obtain ⟨f, g1, g2⟩ := hr.get hcc
          exact ⟨_, by simp only [xhp, g1]; rw [if_pos hc], hr.set (updV_R g2)⟩
        · cases ho
      · cases ho
    · cases ho
  case aastore =>
    simp only [xhp] at ho
    split at ho
    · split at ho
      · rename_i cc hcc
        split at ho
        · rename_i dd hdd
          split at ho
          · rename_i hc
            cases ho
            obtain ⟨f, g1, g2⟩ := hr.get hcc
            obtain ⟨f', g1', g2'⟩ := hr.get hdd
            exact ⟨_, by simp only [xhp, g1, g1']; rw [if_pos hc], hr.set (updV_R g2)⟩
          · cases ho
        · cases ho
      · cases ho
    · cases ho
  case arraylength =>
    simp only [xhp] at ho
    split at ho
    · split at ho
      · cases ho
      · rename_i hc
        cases ho
        exact ⟨h2, by simp only [xhp]; rw [if_neg hc], hr⟩
    · split at ho
      · rename_i cc hcc
        split at ho
        · rename_i hc
          cases ho
          obtain ⟨f, g1, g2⟩ := hr.get hcc
          exact ⟨h2, by simp only [xhp, g1]; rw [if_pos hc], hr⟩
        · cases ho
      · cases ho
    · cases ho
  case new i =>
    simp only [xhp] at ho
    split at ho
    · rename_i cc hcc
      cases ho
      exact ⟨_, by simp only [xhp, hcc]; rw [hr.1], hr.app⟩
    · cases ho
  case newarray at_ =>
    simp only [xhp] at ho
    split at ho
    · split at ho
      · rename_i hc
        cases ho
        exact ⟨_, by simp only [xhp]; rw [if_pos hc, hr.1], hr.app⟩
      · cases ho
    · cases ho
  case anewarray i =>
    simp only [xhp] at ho
    split at ho
    · split at ho
      · rename_i hc
        cases ho
        exact ⟨_, by simp only [xhp]; rw [if_pos hc, hr.1], hr.app⟩
      · cases ho
    · cases ho
  case ldc i => simp only [xhp] at ho; cases ho; exact ⟨h2, rfl, hr⟩
  case ldc_w i => simp only [xhp] at ho; cases ho; exact ⟨h2, rfl, hr⟩
  case ldc2_w i => simp only [xhp] at ho; cases ho; exact ⟨h2, rfl, hr⟩
  all_goals (exact absurd ho (by simp [xhp]))
theorem xnat_R {k : Nat} {st st' : List Value} {h1 h2 h1' : XH} (hr : hR h1 h2) (ho : xnat k st h1 = some (st', h1')) : ∃ h2', xnat k st h2 = some (st', h2') ∧ hR h1' h2' := by
  unfold xnat at ho
  by_cases k5 : k = 5
  · subst k5
    rw [if_pos rfl] at ho
    split at ho
    · split at ho
      · rename_i hc
        cases ho
        exact ⟨h2, by simp [xnat, hc], hr⟩
      · cases ho
    · cases ho
  rw [if_neg k5] at ho
  by_cases k6 : k = 6
  · subst k6
    rw [if_pos rfl] at ho
    split at ho
    · rename_i n dp q1 sp q0 r
      split at ho
      · rename_i hc
        split at ho
        · rename_i cc hcc
          split at ho
          · rename_i dd hdd
            split at ho
            · rename_i hx hcp
              cases ho
              unfold xcpy at hcp
              split at hcp
              · rename_i hcond
                cases hcp
                obtain ⟨f, g1, g2⟩ := hr.get hcc
                obtain ⟨f', g1', g2'⟩ := hr.get hdd
                refine ⟨_, ?_, hr.set (g := va_cpy f f' sp.toNatClampNeg dp.toNatClampNeg n.toNatClampNeg) ?_⟩
                · unfold xnat
                  rw [if_neg (by decide), if_pos rfl]
                  simp only [if_pos hc, g1, g1']
                  unfold xcpy
                  rw [if_pos hcond]
                · intro j hj
                  simp only [va_cpy]
                  split
                  · exact g2 _ (by omega)
                  · exact g2' _ hj
              · cases hcp
            · cases ho
          · cases ho
        · cases ho
      · cases ho
    · cases ho
  rw [if_neg k6] at ho
  by_cases k7 : k = 7
  · subst k7
    rw [if_pos rfl] at ho
    split at ho
    · split at ho
      · rename_i hc
        cases ho
        exact ⟨h2, by simp [xnat, hc], hr⟩
      · cases ho
    · cases ho
  rw [if_neg k7] at ho
  by_cases k8 : k = 8
  · subst k8
    rw [if_pos rfl] at ho
    split at ho
    · split at ho
      · rename_i hc
        cases ho
        exact ⟨h2, by simp [xnat, hc], hr⟩
      · cases ho
    · cases ho
  rw [if_neg k8] at ho
  by_cases k9 : k = 9
  · subst k9
    rw [if_pos rfl] at ho
    split at ho
    · split at ho
      · rename_i hc
        cases ho
        exact ⟨h2, by simp [xnat, hc], hr⟩
      · cases ho
    · cases ho
  rw [if_neg k9] at ho
  cases ho
theorem xrt_hp {ret : Option FieldType} {xs : Nat × (Nat → Int32)} {ini : Bool} {o : Nat} {en : zE} {st : List Value} {h : XH} {v : Option Value} (hq : xrt ret en.1 st = some v) : xhp xs ini o en st h = none := by
  obtain ⟨i, r⟩ := en
  cases i <;> first | rfl | (exact absurd hq (by simp [xrt]))
def XCong (call : XF) : Prop := ∀ (m : Nat) (a : List Value) (h1 h2 : XH) (v : Option Value) (h1' : XH), hR h1 h2 → call m a h1 = some (v, h1') → ∃ h2', call m a h2 = some (v, h2') ∧ hR h1' h2'
theorem xrcv_R {k ci : Nat} {a : List Value} {h1 h2 : XH} (hr : hR h1 h2) (h : xrcv k ci a h1 = true) : xrcv k ci a h2 = true := by
  unfold xrcv at h ⊢
  split at h
  · rename_i hk
    rw [if_pos hk]
  · rename_i hk
    rw [if_neg hk]
    split at h
    · split at h
      · rename_i cc hcc
        obtain ⟨f, g1, g2⟩ := hr.get hcc
        simp only [g1]
        exact h
      · cases h
    · cases h
theorem xcall_R {call : XF} (hg : XCong call) {en : zE} {st st' : List Value} {h1 h2 h1' : XH} (hr : hR h1 h2) (ho : xcall call en st h1 = some (st', h1')) : ∃ h2', xcall call en st h2 = some (st', h2') ∧ hR h1' h2' := by
  simp only [xcall] at ho
  split at ho
  · rename_i hc
    split at ho
    · rename_i v hx hcl
      cases ho
      obtain ⟨h2', q1, q2⟩ := hg _ _ _ _ _ _ hr hcl
      refine ⟨h2', ?_, q2⟩
      simp only [xcall]
      rw [if_pos ⟨hc.1, hc.2.1, xrcv_R hr hc.2.2⟩, q1]
    · cases ho
  · cases ho
theorem xone_R {xs : Nat × (Nat → Int32)} {call : XF} (hg : XCong call) {m pc : Nat} {L : XL} {st : List Value} {h1 h2 : XH} (hr : hR h1 h2) : (∀ pc' L' st' h1', xone xs call m pc L st h1 = some (.inl (pc', L', st', h1')) → ∃ h2', xone xs call m pc L st h2 = some (.inl (pc', L', st', h2')) ∧ hR h1' h2') ∧ ∀ v h1', xone xs call m pc L st h1 = some (.inr (v, h1')) → ∃ h2', xone xs call m pc L st h2 = some (.inr (v, h2')) ∧ hR h1' h2' := by
  unfold xone
  cases hen : zc m pc with
  | none => exact ⟨fun _ _ _ _ q => (by cases q), fun _ _ q => (by cases q)⟩
  | some en =>
    dsimp only
    by_cases hinv : xinv en.1 = true
    · rw [if_pos hinv, if_pos hinv]
      by_cases h5 : en.2.2.1 < 5
      · rw [if_pos h5, if_pos h5]
        cases hx : xcall call en st h1 with
        | none => exact ⟨fun _ _ _ _ q => (by cases q), fun _ _ q => (by cases q)⟩
        | some r =>
          obtain ⟨st2, h3⟩ := r
          obtain ⟨h2', q1, q2⟩ := xcall_R hg hr hx
          rw [q1]
          exact ⟨fun _ _ _ _ q => by cases q; exact ⟨_, rfl, q2⟩, fun _ _ q => (by cases q)⟩
      · rw [if_neg h5, if_neg h5]
        cases hx : xnat en.2.2.1 st h1 with
        | none => exact ⟨fun _ _ _ _ q => (by cases q), fun _ _ q => (by cases q)⟩
        | some r =>
          obtain ⟨st2, h3⟩ := r
          obtain ⟨h2', q1, q2⟩ := xnat_R hr hx
          rw [q1]
          exact ⟨fun _ _ _ _ q => by cases q; exact ⟨_, rfl, q2⟩, fun _ _ q => (by cases q)⟩
    · rw [if_neg hinv, if_neg hinv]
      cases xop en.1 st with
      | some z => exact ⟨fun _ _ _ _ q => by cases q; exact ⟨_, rfl, hr⟩, fun _ _ q => (by cases q)⟩
      | none =>
        cases xld en.1 L with
        | some z => exact ⟨fun _ _ _ _ q => by cases q; exact ⟨_, rfl, hr⟩, fun _ _ q => (by cases q)⟩
        | none =>
          cases xst (zMl m) en.1 L st with
          | some z => obtain ⟨z1, z2⟩ := z; exact ⟨fun _ _ _ _ q => by cases q; exact ⟨_, rfl, hr⟩, fun _ _ q => (by cases q)⟩
          | none =>
            cases xbr en.1 en.2.1 pc st with
            | some z => obtain ⟨z1, z2⟩ := z; exact ⟨fun _ _ _ _ q => by cases q; exact ⟨_, rfl, hr⟩, fun _ _ q => (by cases q)⟩
            | none =>
              dsimp only
              cases hx : xhp xs ((zMrow m).2.1 == "<init>") (zMo m) en st h1 with
              | some r =>
                obtain ⟨st2, h3⟩ := r
                obtain ⟨h2', q1, q2⟩ := xhp_R hr hx
                rw [q1]
                exact ⟨fun _ _ _ _ q => by cases q; exact ⟨_, rfl, q2⟩, fun _ _ q => (by cases q)⟩
              | none =>
                dsimp only
                cases hq : xrt (zMr m) en.1 st with
                | none => exact ⟨fun _ _ _ _ q => (by cases q), fun _ _ q => (by cases q)⟩
                | some v =>
                  have hn : xhp xs ((zMrow m).2.1 == "<init>") (zMo m) en st h2 = none := xrt_hp hq
                  rw [hn]
                  exact ⟨fun _ _ _ _ q => (by cases q), fun _ _ q => by cases q; exact ⟨_, rfl, hr⟩⟩
theorem xgo_R {xs : Nat × (Nat → Int32)} {call : XF} (hg : XCong call) {m : Nat} : ∀ {n pc : Nat} {L : XL} {st : List Value} {h1 h2 : XH} {v : Option Value} {h1' : XH}, hR h1 h2 → xgo xs call m n pc L st h1 = some (v, h1') → ∃ h2', xgo xs call m n pc L st h2 = some (v, h2') ∧ hR h1' h2' := by
  intro n
  induction n with
  | zero => intro pc L st h1 h2 v h1' _ q; cases q
  | succ n ih =>
    intro pc L st h1 h2 v h1' hr q
    simp only [xgo] at q ⊢
    split at q
    · rename_i s' hs
      obtain ⟨pc', L', st', h3⟩ := s'
      obtain ⟨h4, q1, q2⟩ := (xone_R hg hr).1 _ _ _ _ hs
      rw [q1]
      exact ih q2 q
    · rename_i r hs
      cases q
      obtain ⟨h4, q1, q2⟩ := (xone_R hg hr).2 _ _ hs
      rw [q1]
      exact ⟨h4, rfl, q2⟩
    · cases q
theorem xrun_R {xs : Nat × (Nat → Int32)} {n : Nat} : ∀ d, XCong (xrun xs n d) := by
  intro d
  induction d with
  | zero => intro m a h1 h2 v h1' _ q; cases q
  | succ d ih =>
    intro m a h1 h2 v h1' hr q
    simp only [xrun] at q ⊢
    split at q
    · rename_i hl
      rw [if_pos hl]
      exact xgo_R ih hr q
    · cases q
end
section
/-! the law's first steps, both constructors, decided once -/
theorem xhp_xs {xs0 xs : Nat × (Nat → Int32)} (h0 : xs0.1 = 0) {ini : Bool} {o : Nat} {en : zE} {st : List Value} {h : XH} {r : List Value × XH} (ho : xhp xs0 ini o en st h = some r) : xhp xs ini o en st h = some r := by
  obtain ⟨i1, a1, a2, cst, pos⟩ := en
  cases i1
  case iaload =>
    simp only [xhp] at ho ⊢
    split at ho
    · rw [h0] at ho
      rw [if_neg (fun q => q (Or.inr (Nat.zero_le _)))] at ho
      cases ho
    · exact ho
    · cases ho
  case arraylength =>
    simp only [xhp] at ho ⊢
    split at ho
    · rw [if_pos h0] at ho
      cases ho
    · exact ho
    · cases ho
  all_goals exact ho
theorem xone_xs {xs0 xs : Nat × (Nat → Int32)} (h0 : xs0.1 = 0) {c1 c2 : XF} (hs : xSub c1 c2) {m pc : Nat} {L : XL} {st : List Value} {h : XH} {s' : XS} (ho : xone xs0 c1 m pc L st h = some (.inl s')) : xone xs c2 m pc L st h = some (.inl s') := by
  have ho := xone_sub hs ho
  unfold xone at ho ⊢
  cases hen : zc m pc with
  | none => rw [hen] at ho; cases ho
  | some en =>
    rw [hen] at ho
    dsimp only at ho ⊢
    by_cases hinv : xinv en.1 = true
    · rw [if_pos hinv] at ho ⊢
      exact ho
    · rw [if_neg hinv] at ho ⊢
      cases h1 : xop en.1 st with
      | some z => rw [h1] at ho; exact ho
      | none =>
        rw [h1] at ho
        dsimp only at ho ⊢
        cases h2 : xld en.1 L with
        | some z => rw [h2] at ho; exact ho
        | none =>
          rw [h2] at ho
          dsimp only at ho ⊢
          cases h3 : xst (zMl m) en.1 L st with
          | some z => rw [h3] at ho; exact ho
          | none =>
            rw [h3] at ho
            dsimp only at ho ⊢
            cases h4 : xbr en.1 en.2.1 pc st with
            | some z => rw [h4] at ho; exact ho
            | none =>
              rw [h4] at ho
              dsimp only at ho ⊢
              cases h5 : xhp xs0 ((zMrow m).2.1 == "<init>") (zMo m) en st h with
              | some z => rw [h5] at ho; rw [xhp_xs h0 h5]; exact ho
              | none =>
                rw [h5] at ho
                dsimp only at ho
                split at ho
                · cases ho
                · cases ho
theorem xout_xs {xs0 xs : Nat × (Nat → Int32)} {c1 c2 : XF} {m pc : Nat} {L : XL} {st : List Value} {h : XH} {r : XR} (ho : xone xs0 c1 m pc L st h = some (.inr r)) : xone xs c2 m pc L st h = some (.inr r) := by
  unfold xone at ho ⊢
  cases hen : zc m pc with
  | none => rw [hen] at ho; cases ho
  | some en =>
    rw [hen] at ho
    dsimp only at ho ⊢
    by_cases hinv : xinv en.1 = true
    · rw [if_pos hinv] at ho
      exfalso
      split at ho
      · split at ho <;> cases ho
      · split at ho <;> cases ho
    · rw [if_neg hinv] at ho ⊢
      cases h1 : xop en.1 st with
      | some z => rw [h1] at ho; cases ho
      | none =>
        rw [h1] at ho
        dsimp only at ho ⊢
        cases h2 : xld en.1 L with
        | some z => rw [h2] at ho; cases ho
        | none =>
          rw [h2] at ho
          dsimp only at ho ⊢
          cases h3 : xst (zMl m) en.1 L st with
          | some z => rw [h3] at ho; cases ho
          | none =>
            rw [h3] at ho
            dsimp only at ho ⊢
            cases h4 : xbr en.1 en.2.1 pc st with
            | some z => rw [h4] at ho; cases ho
            | none =>
              rw [h4] at ho
              dsimp only at ho ⊢
              cases h5 : xhp xs0 ((zMrow m).2.1 == "<init>") (zMo m) en st h with
              | some z => rw [h5] at ho; cases ho
              | none =>
                rw [h5] at ho
                dsimp only at ho
                split at ho
                · rename_i v hv
                  cases ho
                  rw [xrt_hp hv]
                · cases ho
theorem xgo_xs {xs0 xs : Nat × (Nat → Int32)} (h0 : xs0.1 = 0) {c1 c2 : XF} (hs : xSub c1 c2) {m : Nat} : ∀ {n n' pc : Nat} {L : XL} {st : List Value} {h : XH} {r : XR}, n ≤ n' → xgo xs0 c1 m n pc L st h = some r → xgo xs c2 m n' pc L st h = some r := by
  intro n
  induction n with
  | zero => intro n' pc L st h r _ q; cases q
  | succ n ih =>
    intro n' pc L st h r hn q
    obtain ⟨n', rfl⟩ : ∃ k, n' = k + 1 := ⟨n' - 1, by omega⟩
    simp only [xgo] at q ⊢
    split at q
    · rename_i s' hs'
      rw [xone_xs h0 hs hs']
      exact ih (by omega) q
    · rename_i r' hs'
      rw [xout_xs hs']
      exact q
    · cases q
theorem xrun_xs {xs0 xs : Nat × (Nat → Int32)} (h0 : xs0.1 = 0) {n n' : Nat} (hn : n ≤ n') : ∀ {d d' : Nat}, d ≤ d' → xSub (xrun xs0 n d) (xrun xs n' d') := by
  intro d
  induction d with
  | zero => intro d' _ m a h r q; cases q
  | succ d ih =>
    intro d' hd m a h r q
    obtain ⟨d', rfl⟩ : ∃ k, d' = k + 1 := ⟨d' - 1, by omega⟩
    simp only [xrun] at q ⊢
    split at q
    · rename_i hl
      rw [if_pos hl]
      exact xgo_xs h0 (ih (by omega)) hn q
    · cases q
def xupto (xs : Nat × (Nat → Int32)) (call : XF) (m stop : Nat) : Nat → Nat → XL → List Value → XH → Option (XL × List Value × XH)
  | 0, _, _, _, _ => none
  | n + 1, pc, L, st, h => if pc = stop then some (L, st, h) else match xone xs call m pc L st h with
    | some (.inl s) => xupto xs call m stop n s.1 s.2.1 s.2.2.1 s.2.2.2
    | _ => none
theorem xupto_go {xs0 xs : Nat × (Nat → Int32)} (h0 : xs0.1 = 0) {c1 c2 : XF} (hs : xSub c1 c2) {m stop : Nat} {L' : XL} {st' : List Value} {h' : XH} {k : Nat} {r : XR} : ∀ {n pc : Nat} {L : XL} {st : List Value} {h : XH}, xupto xs0 c1 m stop n pc L st h = some (L', st', h') → xgo xs c2 m k stop L' st' h' = some r → xgo xs c2 m (k + n) pc L st h = some r := by
  intro n
  induction n with
  | zero => intro pc L st h q; cases q
  | succ n ih =>
    intro pc L st h q hk
    simp only [xupto] at q
    split at q
    · rename_i hp
      cases q
      rw [hp]
      exact xgo_sub (fun _ _ _ _ q => q) (by omega) hk
    · split at q
      · rename_i s' hs'
        show xgo xs c2 m ((k + n) + 1) pc L st h = some r
        simp only [xgo]
        rw [xone_xs h0 hs hs']
        exact ih q hk
      · cases q
abbrev zL0 : XL := [(0, .ref 0), (1, .ref 1), (2, .ref 180), (3, .int 0)]
def zPre : Bool := match xupto (0, fun _ => 0) (xrun (0, fun _ => 0) 4000 6) zLawI 18 12 0 [(0, .ref 0)] [] [] with
  | some (L, st, h) => decide (L = zL0) && (st.isEmpty && hEq h (hp σ0))
  | none => false
theorem zPre_ok : zPre = true := by decide +kernel
theorem zsl_R {h1 h2 : XH} (h : hR h1 h2) : zsl h2 = zsl h1 := by
  unfold zsl
  congr 1
  apply List.ext_getElem?
  intro n
  rw [List.getElem?_map, List.getElem?_map]
  cases h3 : h1[n]? with
  | none =>
    have : h2[n]? = none := List.getElem?_eq_none (by rw [← h.1]; exact List.getElem?_eq_none_iff.mp h3)
    rw [this]
  | some cc =>
    obtain ⟨f, g1, -⟩ := h.get h3
    rw [g1]
    rfl
theorem zsl_hp (σ : ZS) : zsl (hp σ) ≤ 7302250 := by
  have : (hp σ).map (fun c => c.2.1) = (List.range zNC).map (fun n => tln (loc n).1) := by
    unfold hp
    rw [List.map_map]
    rfl
  unfold zsl
  rw [this]
  decide +kernel
theorem hR.symm {h1 h2 : XH} (h : hR h1 h2) : hR h2 h1 := ⟨h.1.symm, fun n c1 c2 g1 g2 => by
  obtain ⟨q1, q2, q3⟩ := h.2 n c2 c1 g2 g1
  exact ⟨q1.symm, q2.symm, fun j hj => (q3 j (by rw [q2]; exact hj)).symm⟩⟩
/-- the law's run out of its run behind the constructors -/
theorem z_pre {xs : Nat × (Nat → Int32)} {d : Nat} (hd : 6 ≤ d) (h : TT xs d zLawI 18 zL0 [] σ0 (fun v _ => v = some (.int 1))) : ∃ (n : Nat) (h' : XH), xgo xs (xrun xs n d) zLawI n 0 [(0, .ref 0)] [] [] = some (some (.int 1), h') ∧ h'.length ≤ 600000 ∧ zsl h' ≤ 7302250 := by
  obtain ⟨n, v, σ', h1, rfl⟩ := h
  have hp0 := zPre_ok
  unfold zPre at hp0
  split at hp0
  · rename_i L st hh hu
    simp only [Bool.and_eq_true, decide_eq_true_eq] at hp0
    obtain ⟨rfl, h2, h3⟩ := hp0
    obtain rfl : st = [] := List.isEmpty_iff.mp h2
    have hR0 := (hEq_R h3).symm
    have h4 : xgo xs (xrun xs (n + 4000) d) zLawI n 18 zL0 [] (hp σ0) = some (some (.int 1), hp σ') := xgo_sub (xrun_sub (by omega) (Nat.le_refl d)) (Nat.le_refl n) h1
    obtain ⟨h', h5, h6⟩ := xgo_R (xrun_R d) hR0 h4
    have h7 := xupto_go (xs := xs) (xs0 := (0, fun _ => 0)) rfl (xrun_xs (xs := xs) (n := 4000) (n' := n + 4000) rfl (by omega) hd) hu h5
    refine ⟨n + 4000, h', xgo_sub (fun _ _ _ _ q => q) (by omega) h7, ?_, ?_⟩
    · rw [← h6.1]
      show (hp σ').length ≤ 600000
      unfold hp
      rw [List.length_map, List.length_range]
      decide
    · rw [zsl_R h6]
      exact zsl_hp σ'
  · cases hp0
end
section
/-! what the cells hold: ranges, by program -/
def rgP (t j : Nat) (v : Int) : Prop := (-2147483648 ≤ v ∧ v ≤ 2147483647) ∧ match t with
  | 0 => (3 ≤ j → j < 4 → 0 ≤ v ∧ v ≤ 1)
  | 1 => (5 ≤ j → j < 6 → 0 ≤ v ∧ v ≤ 5) ∧ (6 ≤ j → j < 7 → 0 ≤ v ∧ v ≤ 12) ∧ (7 ≤ j → j < 8 → 0 ≤ v ∧ v ≤ 6) ∧ (10 ≤ j → j < 11 → 0 ≤ v ∧ v ≤ 99) ∧ (11 ≤ j → j < 12 → 1 ≤ v ∧ v ≤ 9) ∧ (12 ≤ j → j < 13 → 0 ≤ v ∧ v ≤ 9999)
  | 8 => (0 ≤ j → j < 100 → 0 ≤ v ∧ v ≤ 1)
  | 9 => (0 ≤ j → j < 100 → 0 ≤ v ∧ v ≤ 1)
  | 11 => (0 ≤ j → j < 1 → 0 ≤ v ∧ v ≤ 3)
  | 12 => (0 ≤ j → j < 3 → 0 ≤ v ∧ v ≤ 24)
  | 13 => (0 ≤ j → j < 100 → 0 ≤ v ∧ v ≤ 1)
  | 17 => (0 ≤ j → j < 1 → 0 ≤ v ∧ v ≤ 96)
  | 18 => (0 ≤ j → j < 96 → -300 ≤ v ∧ v ≤ 300)
  | 22 => (0 ≤ j → j < 100 → 0 ≤ v ∧ v ≤ 1)
  | 23 => (2 ≤ j → j < 3 → 0 ≤ v ∧ v ≤ 96) ∧ (1 ≤ j → j < 2 → 0 ≤ v ∧ v ≤ 1)
  | 25 => (1 ≤ j → j < 2 → 0 ≤ v ∧ v ≤ 24) ∧ (9 ≤ j → j < 10 → 0 ≤ v ∧ v ≤ 1)
  | 26 => (0 ≤ j → j < 1 → 0 ≤ v ∧ v ≤ 24) ∧ (5 ≤ j → j < 6 → -1 ≤ v ∧ v ≤ 24)
  | 29 => (2 ≤ j → j < 3 → 0 ≤ v ∧ v ≤ 96)
  | 30 => (2 ≤ j → j < 3 → 0 ≤ v ∧ v ≤ 96) ∧ (1 ≤ j → j < 2 → 0 ≤ v ∧ v ≤ 1)
  | 33 => (2 ≤ j → j < 3 → 0 ≤ v ∧ v ≤ 96)
  | 35 => (3 ≤ j → j < 4 → 0 ≤ v ∧ v ≤ 1)
  | 36 => (250 ≤ j → j < 253 → 0 ≤ v ∧ v ≤ 24) ∧ (460 ≤ j → j < 472 → 0 ≤ v ∧ v ≤ 24) ∧ (568 ≤ j → j < 574 → 0 ≤ v ∧ v ≤ 24) ∧ (598 ≤ j → j < 604 → -1 ≤ v ∧ v ≤ 24) ∧ (633 ≤ j → j < 634 → 0 ≤ v ∧ v ≤ 3) ∧ (634 ≤ j → j < 635 → 0 ≤ v ∧ v ≤ 30000) ∧ (635 ≤ j → j < 637 → 0 ≤ v ∧ v ≤ 96) ∧ (637 ≤ j → j < 638 → 0 ≤ v ∧ v ≤ 99) ∧ (638 ≤ j → j < 639 → 0 ≤ v ∧ v ≤ 9) ∧ (639 ≤ j → j < 640 → 0 ≤ v ∧ v ≤ 9999) ∧ (640 ≤ j → j < 641 → 0 ≤ v ∧ v ≤ 5) ∧ (641 ≤ j → j < 642 → 0 ≤ v ∧ v ≤ 12) ∧ (642 ≤ j → j < 643 → 0 ≤ v ∧ v ≤ 6)
  | 37 => (0 ≤ j → j < 8 → 0 ≤ v ∧ v ≤ 2)
  | 38 => (0 ≤ j → j < 8 → 0 ≤ v ∧ v ≤ 3)
  | 39 => (0 ≤ j → j < 8 → 0 ≤ v ∧ v ≤ 96)
  | 40 => (0 ≤ j → j < 8 → -1 ≤ v ∧ v ≤ 11)
  | 44 => (0 ≤ j → j < 6 → 0 ≤ v ∧ v ≤ 120)
  | 45 => (0 ≤ j → j < 720 → -3 ≤ v ∧ v ≤ 49)
  | 53 => (0 ≤ j → j < 25 → 0 ≤ v ∧ v ≤ 24)
  | 57 => (0 ≤ j → j < 5 → 0 ≤ v ∧ v ≤ 120)
  | 58 => (0 ≤ j → j < 600 → -3 ≤ v ∧ v ≤ 49)
  | _ => True
def Inv (σ : ZS) : Prop := ∀ t i k j, vd t i k → rgP t j (σ t i k j)
theorem vd_0 : vd 0 0 0 := ⟨Nat.one_pos, Nat.one_pos⟩
theorem vd_1 {i : Nat} (h1 : i < 3) : vd 1 i 0 := ⟨h1, Nat.one_pos⟩
theorem vd_2 {i : Nat} (h1 : i < 3) : vd 2 i 0 := ⟨h1, Nat.one_pos⟩
theorem vd_3 {i : Nat} (h1 : i < 3) : vd 3 i 0 := ⟨h1, Nat.one_pos⟩
theorem vd_4 {i : Nat} (h1 : i < 3) : vd 4 i 0 := ⟨h1, Nat.one_pos⟩
theorem vd_5 {i : Nat} (h1 : i < 3) : vd 5 i 0 := ⟨h1, Nat.one_pos⟩
theorem vd_6 {i : Nat} (h1 : i < 3) : vd 6 i 0 := ⟨h1, Nat.one_pos⟩
theorem vd_7 {i : Nat} (h1 : i < 3) : vd 7 i 0 := ⟨h1, Nat.one_pos⟩
theorem vd_8 {i : Nat} (h1 : i < 3) : vd 8 i 0 := ⟨h1, Nat.one_pos⟩
theorem vd_9 {i : Nat} (h1 : i < 3) : vd 9 i 0 := ⟨h1, Nat.one_pos⟩
theorem vd_10 {i : Nat} (h1 : i < 3) : vd 10 i 0 := ⟨h1, Nat.one_pos⟩
theorem vd_11 {i : Nat} (h1 : i < 3) : vd 11 i 0 := ⟨h1, Nat.one_pos⟩
theorem vd_12 {i : Nat} (h1 : i < 3) : vd 12 i 0 := ⟨h1, Nat.one_pos⟩
theorem vd_13 {i : Nat} (h1 : i < 3) : vd 13 i 0 := ⟨h1, Nat.one_pos⟩
theorem vd_14 {i : Nat} (h1 : i < 3) : vd 14 i 0 := ⟨h1, Nat.one_pos⟩
theorem vd_15 {i : Nat} (h1 : i < 3) : vd 15 i 0 := ⟨h1, Nat.one_pos⟩
theorem vd_16 {i : Nat} (h1 : i < 3) : vd 16 i 0 := ⟨h1, Nat.one_pos⟩
theorem vd_17 {i k : Nat} (h1 : i < 3) (h2 : k < 2) : vd 17 i k := ⟨h1, h2⟩
theorem vd_18 {i k : Nat} (h1 : i < 3) (h2 : k < 2) : vd 18 i k := ⟨h1, h2⟩
theorem vd_19 {i : Nat} (h1 : i < 3) : vd 19 i 0 := ⟨h1, Nat.one_pos⟩
theorem vd_20 {i : Nat} (h1 : i < 3) : vd 20 i 0 := ⟨h1, Nat.one_pos⟩
theorem vd_21 {i : Nat} (h1 : i < 3) : vd 21 i 0 := ⟨h1, Nat.one_pos⟩
theorem vd_22 {i : Nat} (h1 : i < 3) : vd 22 i 0 := ⟨h1, Nat.one_pos⟩
theorem vd_23 {i k : Nat} (h1 : i < 3) (h2 : k < 5) : vd 23 i k := ⟨h1, h2⟩
theorem vd_24 {i k : Nat} (h1 : i < 3) (h2 : k < 5) : vd 24 i k := ⟨h1, h2⟩
theorem vd_25 {i k : Nat} (h1 : i < 3) (h2 : k < 12) : vd 25 i k := ⟨h1, h2⟩
theorem vd_26 {i k : Nat} (h1 : i < 3) (h2 : k < 6) : vd 26 i k := ⟨h1, h2⟩
theorem vd_27 : vd 27 0 0 := ⟨Nat.one_pos, Nat.one_pos⟩
theorem vd_28 : vd 28 0 0 := ⟨Nat.one_pos, Nat.one_pos⟩
theorem vd_29 : vd 29 0 0 := ⟨Nat.one_pos, Nat.one_pos⟩
theorem vd_30 : vd 30 0 0 := ⟨Nat.one_pos, Nat.one_pos⟩
theorem vd_31 : vd 31 0 0 := ⟨Nat.one_pos, Nat.one_pos⟩
theorem vd_32 : vd 32 0 0 := ⟨Nat.one_pos, Nat.one_pos⟩
theorem vd_33 {k : Nat} (h2 : k < 8) : vd 33 0 k := ⟨Nat.one_pos, h2⟩
theorem vd_34 {k : Nat} (h2 : k < 8) : vd 34 0 k := ⟨Nat.one_pos, h2⟩
theorem vd_35 : vd 35 0 0 := ⟨Nat.one_pos, Nat.one_pos⟩
theorem vd_36 {k : Nat} (h2 : k < 3) : vd 36 0 k := ⟨Nat.one_pos, h2⟩
theorem vd_37 : vd 37 0 0 := ⟨Nat.one_pos, Nat.one_pos⟩
theorem vd_38 : vd 38 0 0 := ⟨Nat.one_pos, Nat.one_pos⟩
theorem vd_39 : vd 39 0 0 := ⟨Nat.one_pos, Nat.one_pos⟩
theorem vd_40 : vd 40 0 0 := ⟨Nat.one_pos, Nat.one_pos⟩
theorem vd_41 : vd 41 0 0 := ⟨Nat.one_pos, Nat.one_pos⟩
theorem vd_42 : vd 42 0 0 := ⟨Nat.one_pos, Nat.one_pos⟩
theorem vd_43 : vd 43 0 0 := ⟨Nat.one_pos, Nat.one_pos⟩
theorem vd_44 : vd 44 0 0 := ⟨Nat.one_pos, Nat.one_pos⟩
theorem vd_45 : vd 45 0 0 := ⟨Nat.one_pos, Nat.one_pos⟩
theorem vd_46 : vd 46 0 0 := ⟨Nat.one_pos, Nat.one_pos⟩
theorem vd_47 : vd 47 0 0 := ⟨Nat.one_pos, Nat.one_pos⟩
theorem vd_48 : vd 48 0 0 := ⟨Nat.one_pos, Nat.one_pos⟩
theorem vd_49 : vd 49 0 0 := ⟨Nat.one_pos, Nat.one_pos⟩
theorem vd_50 : vd 50 0 0 := ⟨Nat.one_pos, Nat.one_pos⟩
theorem vd_51 : vd 51 0 0 := ⟨Nat.one_pos, Nat.one_pos⟩
theorem vd_52 : vd 52 0 0 := ⟨Nat.one_pos, Nat.one_pos⟩
theorem vd_53 : vd 53 0 0 := ⟨Nat.one_pos, Nat.one_pos⟩
theorem vd_54 : vd 54 0 0 := ⟨Nat.one_pos, Nat.one_pos⟩
theorem vd_55 : vd 55 0 0 := ⟨Nat.one_pos, Nat.one_pos⟩
theorem vd_56 : vd 56 0 0 := ⟨Nat.one_pos, Nat.one_pos⟩
theorem vd_57 : vd 57 0 0 := ⟨Nat.one_pos, Nat.one_pos⟩
theorem vd_58 : vd 58 0 0 := ⟨Nat.one_pos, Nat.one_pos⟩
theorem vd_59 : vd 59 0 0 := ⟨Nat.one_pos, Nat.one_pos⟩
theorem vd_60 : vd 60 0 0 := ⟨Nat.one_pos, Nat.one_pos⟩
theorem vd_61 : vd 61 0 0 := ⟨Nat.one_pos, Nat.one_pos⟩
def IF (M : Nat → Nat → Nat → Nat → Prop) (σ0 σ : ZS) : Prop := Inv σ ∧ ∀ t i k j, ¬ M t i k j → σ t i k j = σ0 t i k j
theorem IF.rf {M : Nat → Nat → Nat → Nat → Prop} {σ : ZS} (h : Inv σ) : IF M σ σ := ⟨h, fun _ _ _ _ _ => rfl⟩
theorem IF.up {M : Nat → Nat → Nat → Nat → Prop} {σ0 σ : ZS} {t i k j : Nat} {v : Int} (h : IF M σ0 σ) (hw : rgP t j v) (hM : M t i k j) : IF M σ0 (up σ t i k j v) := by
  refine ⟨fun t' i' k' j' hv => ?_, fun t' i' k' j' hn => ?_⟩
  · by_cases hq : t' = t ∧ i' = i ∧ k' = k ∧ j' = j
    · obtain ⟨rfl, rfl, rfl, rfl⟩ := hq
      rw [up_eq]
      exact hw
    · rw [up_ne hq]
      exact h.1 t' i' k' j' hv
  · rw [up_ne (fun q => hn (by rw [q.1, q.2.1, q.2.2.1, q.2.2.2]; exact hM))]
    exact h.2 t' i' k' j' hn
theorem IF.tr {M M' : Nat → Nat → Nat → Nat → Prop} {σ0 σ σ' : ZS} (h : IF M σ0 σ) (h' : IF M' σ σ') (hM : ∀ t i k j, M' t i k j → M t i k j) : IF M σ0 σ' :=
  ⟨h'.1, fun t i k j hn => (h'.2 t i k j (fun q => hn (hM _ _ _ _ q))).trans (h.2 t i k j hn)⟩
def MN (_ _ _ _ : Nat) : Prop := False
theorem MN_sub {M : Nat → Nat → Nat → Nat → Prop} : ∀ t i k j, MN t i k j → M t i k j := fun _ _ _ _ h => h.elim
section LW
variable {xs : Nat × (Nat → Int32)} {d m pc pc' : Nat} {L L' : XL} {st st' r : List Value} {Q : Option Value → ZS → Prop} {a1 a2 p : Nat} {c : Int} {t i k : Nat} {M : Nat → Nat → Nat → Nat → Prop} {σ0 : ZS} {lo hi : Int} {ln : Nat}
theorem W_norm {x : Int} (kk : ∀ z : Int, -2147483648 ≤ z → z ≤ 2147483647 → TJ xs (IF M σ0) d m pc L (iv z :: r) Q) : TJ xs (IF M σ0) d m pc L (iv x :: r) Q := by
  have h := kk (Int32.ofInt x).toInt (Int32.le_toInt _) (Int32.toInt_le _)
  rwa [iv_of] at h
theorem W_unk {ii : Instr} {x y : Int} (hz : zc m pc = some (ii, a1, a2, c, p)) (hu : xun ii = true) (hp' : pc + 1 = pc') (kk : ∀ z : Int, -2147483648 ≤ z → z ≤ 2147483647 → TJ xs (IF M σ0) d m pc' L (iv z :: r) Q) : TJ xs (IF M σ0) d m pc L (iv y :: iv x :: r) Q := by
  subst hp'
  exact T_unk hz hu (fun z => W_norm kk)
theorem W_unkD {ii : Instr} {x y : Int} (hz : zc m pc = some (ii, a1, a2, c, p)) (hu : ii = .idiv ∨ ii = .irem) (hy : 0 < y ∧ y ≤ 2147483647) (hp' : pc + 1 = pc') (kk : ∀ z : Int, -2147483648 ≤ z → z ≤ 2147483647 → TJ xs (IF M σ0) d m pc' L (iv z :: r) Q) : TJ xs (IF M σ0) d m pc L (iv y :: iv x :: r) Q := by
  subst hp'
  exact T_unkD hz hu (I_ne0 hy) (fun z => W_norm kk)
theorem W_unkI {ii : Instr} {x : Int} (hz : zc m pc = some (ii, a1, a2, c, p)) (hu : xunI ii = true) (hp' : pc + 1 = pc') (kk : ∀ z : Int, -2147483648 ≤ z → z ≤ 2147483647 → TJ xs (IF M σ0) d m pc' L (iv z :: r) Q) : TJ xs (IF M σ0) d m pc L (iv x :: r) Q := by
  subst hp'
  exact T_unkI hz hu (fun z => W_norm kk)
theorem W_getf {idx ci jj : Nat} (hz : zc m pc = some (.getfield idx, ci, jj, c, p)) (hs : slotI t ci jj = true) (hv : vd t i k) (hP : ∀ v, rgP t jj v → lo ≤ v ∧ v ≤ hi) (hp' : pc + 3 = pc') (kk : ∀ y, lo ≤ y → y ≤ hi → TJ xs (IF M σ0) d m pc' L (iv y :: r) Q) : TJ xs (IF M σ0) d m pc L (av t i k :: r) Q :=
  T_getf (Pp := fun v => lo ≤ v ∧ v ≤ hi) hz hs hv (fun σ hσ => hP _ (hσ.1 t i k jj hv)) hp' (fun y hy => kk y hy.1 hy.2)
theorem W_getfQ {idx ci jj : Nat} (hz : zc m pc = some (.getfield idx, ci, jj, c, p)) (hs : slotI t ci jj = true) (hv : vd t i k) (hP : ∀ v, rgP t jj v → lo ≤ v ∧ v ≤ hi) (hM : ¬ M t i k jj) (hp' : pc + 3 = pc') (kk : ∀ y, y = σ0 t i k jj → lo ≤ y → y ≤ hi → TJ xs (IF M σ0) d m pc' L (iv y :: r) Q) : TJ xs (IF M σ0) d m pc L (av t i k :: r) Q :=
  T_getf (Pp := fun v => v = σ0 t i k jj ∧ lo ≤ v ∧ v ≤ hi) hz hs hv (fun σ hσ => ⟨hσ.2 _ _ _ _ hM, hP _ (hσ.1 t i k jj hv)⟩) hp' (fun y hy => kk y hy.1 hy.2.1 hy.2.2)
theorem W_iald {x : Int} (hz : zc m pc = some (.iaload, a1, a2, c, p)) (hs : arrK t 12 = true) (hln : tln t = ln) (hv : vd t i k) (h0 : 0 ≤ x) (h1 : x < ln) (h2 : x ≤ 2147483647) (hP : ∀ v, rgP t x.toNat v → lo ≤ v ∧ v ≤ hi) (hp' : pc + 1 = pc') (kk : ∀ y, lo ≤ y → y ≤ hi → TJ xs (IF M σ0) d m pc' L (iv y :: r) Q) : TJ xs (IF M σ0) d m pc L (iv x :: av t i k :: r) Q :=
  T_iald (Pp := fun v => lo ≤ v ∧ v ≤ hi) hz hs hv h0 (by rw [hln]; exact h1) h2 (fun σ hσ => hP _ (hσ.1 t i k _ hv)) hp' (fun y hy => kk y hy.1 hy.2)
theorem W_ialdQ {x : Int} (hz : zc m pc = some (.iaload, a1, a2, c, p)) (hs : arrK t 12 = true) (hln : tln t = ln) (hv : vd t i k) (h0 : 0 ≤ x) (h1 : x < ln) (h2 : x ≤ 2147483647) (hP : ∀ v, rgP t x.toNat v → lo ≤ v ∧ v ≤ hi) (hM : ¬ M t i k x.toNat) (hp' : pc + 1 = pc') (kk : ∀ y, y = σ0 t i k x.toNat → lo ≤ y → y ≤ hi → TJ xs (IF M σ0) d m pc' L (iv y :: r) Q) : TJ xs (IF M σ0) d m pc L (iv x :: av t i k :: r) Q :=
  T_iald (Pp := fun v => v = σ0 t i k x.toNat ∧ lo ≤ v ∧ v ≤ hi) hz hs hv h0 (by rw [hln]; exact h1) h2 (fun σ hσ => ⟨hσ.2 _ _ _ _ hM, hP _ (hσ.1 t i k _ hv)⟩) hp' (fun y hy => kk y hy.1 hy.2.1 hy.2.2)
theorem W_bald {x : Int} (hz : zc m pc = some (.baload, a1, a2, c, p)) (hs : arrK t 14 = true) (hln : tln t = ln) (hv : vd t i k) (h0 : 0 ≤ x) (h1 : x < ln) (h2 : x ≤ 2147483647) (hP : ∀ v, rgP t x.toNat v → lo ≤ v ∧ v ≤ hi) (hp' : pc + 1 = pc') (kk : ∀ y, lo ≤ y → y ≤ hi → TJ xs (IF M σ0) d m pc' L (iv y :: r) Q) : TJ xs (IF M σ0) d m pc L (iv x :: av t i k :: r) Q :=
  T_bald (Pp := fun v => lo ≤ v ∧ v ≤ hi) hz hs hv h0 (by rw [hln]; exact h1) h2 (fun σ hσ => hP _ (hσ.1 t i k _ hv)) hp' (fun y hy => kk y hy.1 hy.2)
theorem W_lald {x : Int} (hz : zc m pc = some (.laload, a1, a2, c, p)) (hs : arrK t 13 = true) (hln : tln t = ln) (hv : vd t i k) (h0 : 0 ≤ x) (h1 : x < ln) (h2 : x ≤ 2147483647) (hp' : pc + 1 = pc') (kk : ∀ y, TJ xs (IF M σ0) d m pc' L (jv y :: r) Q) : TJ xs (IF M σ0) d m pc L (iv x :: av t i k :: r) Q :=
  T_laldE hz hs hv h0 (by rw [hln]; exact h1) h2 hp' (fun y σ hJ => kk y σ hJ.1)
theorem W_aald {x : Int} {t' im i' : Nat} (hz : zc m pc = some (.aaload, a1, a2, c, p)) (hs : arrQ t t' im = true) (hi' : ixi im i = i') (hln : tln t = ln) (hv : vd t i k) (h0 : 0 ≤ x) (h1 : x < ln) (h2 : x ≤ 2147483647) (hp' : pc + 1 = pc') (kk : TJ xs (IF M σ0) d m pc' L (av t' i' x.toNat :: r) Q) : TJ xs (IF M σ0) d m pc L (iv x :: av t i k :: r) Q :=
  T_aald hz hs hi' hv h0 (by rw [hln]; exact h1) h2 hp' kk
theorem W_putf {idx ci jj : Nat} {v : Int} (hz : zc m pc = some (.putfield idx, ci, jj, c, p)) (hs : slotI t ci jj = true) (hf : zFt ci jj = 0) (hv : vd t i k) (hw : rgP t jj v) (hM : M t i k jj) (hp' : pc + 3 = pc') (kk : TJ xs (IF M σ0) d m pc' L r Q) : TJ xs (IF M σ0) d m pc L (iv v :: av t i k :: r) Q := T_putf hz hs hf hv (fun σ hσ => hσ.up hw hM) hp' kk
theorem W_putz {idx ci jj : Nat} {v : Int} (hz : zc m pc = some (.putfield idx, ci, jj, c, p)) (hs : slotI t ci jj = true) (hf : zFt ci jj = 1) (hb : v = 0 ∨ v = 1) (hv : vd t i k) (hw : rgP t jj v) (hM : M t i k jj) (hp' : pc + 3 = pc') (kk : TJ xs (IF M σ0) d m pc' L r Q) : TJ xs (IF M σ0) d m pc L (iv v :: av t i k :: r) Q := T_putz hz hs hf hb hv (fun σ hσ => hσ.up hw hM) hp' kk
theorem W_iast {x v : Int} (hz : zc m pc = some (.iastore, a1, a2, c, p)) (hs : arrK t 12 = true) (hln : tln t = ln) (hv : vd t i k) (h0 : 0 ≤ x) (h1 : x < ln) (h2 : x ≤ 2147483647) (hw : rgP t x.toNat v) (hM : M t i k x.toNat) (hp' : pc + 1 = pc') (kk : TJ xs (IF M σ0) d m pc' L r Q) : TJ xs (IF M σ0) d m pc L (iv v :: iv x :: av t i k :: r) Q := T_iast hz hs hv h0 (by rw [hln]; exact h1) h2 (fun σ hσ => hσ.up hw hM) hp' kk
theorem W_bast {x v : Int} (hz : zc m pc = some (.bastore, a1, a2, c, p)) (hs : arrK t 14 = true) (hln : tln t = ln) (hb : v = 0 ∨ v = 1) (hv : vd t i k) (h0 : 0 ≤ x) (h1 : x < ln) (h2 : x ≤ 2147483647) (hw : rgP t x.toNat v) (hM : M t i k x.toNat) (hp' : pc + 1 = pc') (kk : TJ xs (IF M σ0) d m pc' L r Q) : TJ xs (IF M σ0) d m pc L (iv v :: iv x :: av t i k :: r) Q := T_bast hz hs hb hv h0 (by rw [hln]; exact h1) h2 (fun σ hσ => hσ.up hw hM) hp' kk
/-- calls: what the callee says, and that it changes no more than the caller may -/
theorem W_calli {ii : Instr} {cal mode d' : Nat} {N : Int} {a : List Value} {M' : Nat → Nat → Nat → Nat → Prop} {P : Int → Prop} (hz : zc m pc = some (ii, cal, mode, N, p)) (hi : xinv ii = true) (hm : Nat.blt mode 5 = true) (ha : (st.take N.toNat).reverse = a) (hr : st.drop N.toNat = r) (hl : Nat.ble N.toNat st.length = true) (hcat : Nat.ble (r.map fun v => v.category).sum 8 = true) (hv : xrv mode (zMo cal) a) (hC : ∀ σ, IF M σ0 σ → CT xs d' cal a σ (fun v σ' => ∃ y, v = some (iv y) ∧ P y ∧ IF M' σ σ')) (hd : d' ≤ d) (hM : ∀ t i k j, M' t i k j → M t i k j) (hp' : pc + 3 = pc') (kk : ∀ y, P y → TJ xs (IF M σ0) d m pc' L (iv y :: r) Q) : TJ xs (IF M σ0) d m pc L st Q :=
  T_calli (K := fun y σ' => P y ∧ IF M σ0 σ') hz hi hm ha hr hl hcat hv (fun σ hσ => (hC σ hσ).le hd (fun v σ' ⟨y, h1, h2, h3⟩ => ⟨y, h1, h2, hσ.tr h3 hM⟩)) hp' (fun y σ hσ => kk y hσ.1 σ hσ.2)
theorem W_callv {ii : Instr} {cal mode d' : Nat} {N : Int} {a : List Value} {M' : Nat → Nat → Nat → Nat → Prop} (hz : zc m pc = some (ii, cal, mode, N, p)) (hi : xinv ii = true) (hm : Nat.blt mode 5 = true) (ha : (st.take N.toNat).reverse = a) (hr : st.drop N.toNat = r) (hl : Nat.ble N.toNat st.length = true) (hcat : Nat.ble (r.map fun v => v.category).sum 8 = true) (hv : xrv mode (zMo cal) a) (hC : ∀ σ, IF M σ0 σ → CT xs d' cal a σ (fun v σ' => v = none ∧ IF M' σ σ')) (hd : d' ≤ d) (hM : ∀ t i k j, M' t i k j → M t i k j) (hp' : pc + 3 = pc') (kk : TJ xs (IF M σ0) d m pc' L r Q) : TJ xs (IF M σ0) d m pc L st Q :=
  T_callv (J' := IF M σ0) hz hi hm ha hr hl hcat hv (fun σ hσ => (hC σ hσ).le hd (fun v σ' ⟨h1, h3⟩ => ⟨h1, hσ.tr h3 hM⟩)) hp' kk
theorem W_iret {x : Int} {P : Int → Prop} (hz : zc m pc = some (.ireturn, a1, a2, c, p)) (hr : zMr m = some .int) (hP : P x) : TJ xs (IF M σ0) d m pc L [iv x] (fun v σ' => ∃ y, v = some (iv y) ∧ P y ∧ IF M σ0 σ') := T_iret hz hr (fun σ hσ => ⟨x, rfl, hP, hσ⟩)
theorem W_zret {x : Int} {P : Int → Prop} (hz : zc m pc = some (.ireturn, a1, a2, c, p)) (hr : zMr m = some .boolean) (hb : x = 0 ∨ x = 1) (hP : P x) : TJ xs (IF M σ0) d m pc L [iv x] (fun v σ' => ∃ y, v = some (iv y) ∧ P y ∧ IF M σ0 σ') := T_zret hz hr hb (fun σ hσ => ⟨x, rfl, hP, hσ⟩)
theorem W_vret (hz : zc m pc = some (.return_, a1, a2, c, p)) (hr : zMr m = none) : TJ xs (IF M σ0) d m pc L [] (fun v σ' => v = none ∧ IF M σ0 σ') := T_vret hz hr (fun σ hσ => ⟨rfl, hσ⟩)
/-- a contract out of a walk -/
theorem W_ct {nL : Nat} {a : List Value} {σ : ZS} (hn : zMl m = nL) (hl : Nat.ble (lg_sl a).length nL = true) (hL : xent 0 a = L) (hI : Inv σ) (h : TJ xs (IF M σ) d m 0 L [] Q) : CT xs (d + 1) m a σ Q := CT.of hn (by simpa using hl) hL (h σ (IF.rf hI))
end LW
theorem T_loop1 (mu : Int → Nat) (P G : Int → Prop) (h : ∀ a, P a → (∀ a', P a' → mu a' < mu a → G a') → G a) : ∀ a, P a → G a := T_loop mu P G h
theorem T_loop2 (mu : Int → Int → Nat) (P G : Int → Int → Prop) (h : ∀ a b, P a b → (∀ a' b', P a' b' → mu a' b' < mu a b → G a' b') → G a b) : ∀ a b, P a b → G a b := fun a b hP => T_loop (α := Int × Int) (fun q => mu q.1 q.2) (fun q => P q.1 q.2) (fun q => G q.1 q.2) (fun q hq ih => h q.1 q.2 hq (fun a' b' h1 h2 => ih (a', b') h1 h2)) (a, b) hP
theorem T_loop3 (mu : Int → Int → Int → Nat) (P G : Int → Int → Int → Prop) (h : ∀ a b e, P a b e → (∀ a' b' e', P a' b' e' → mu a' b' e' < mu a b e → G a' b' e') → G a b e) : ∀ a b e, P a b e → G a b e := fun a b e hP => T_loop (α := Int × Int × Int) (fun q => mu q.1 q.2.1 q.2.2) (fun q => P q.1 q.2.1 q.2.2) (fun q => G q.1 q.2.1 q.2.2) (fun q hq ih => h q.1 q.2.1 q.2.2 hq (fun a' b' e' h1 h2 => ih (a', b', e') h1 h2)) (a, b, e) hP
theorem T_loop4 (mu : Int → Int → Int → Int → Nat) (P G : Int → Int → Int → Int → Prop) (h : ∀ a b e f, P a b e f → (∀ a' b' e' f', P a' b' e' f' → mu a' b' e' f' < mu a b e f → G a' b' e' f') → G a b e f) : ∀ a b e f, P a b e f → G a b e f := fun a b e f hP => T_loop (α := Int × Int × Int × Int) (fun q => mu q.1 q.2.1 q.2.2.1 q.2.2.2) (fun q => P q.1 q.2.1 q.2.2.1 q.2.2.2) (fun q => G q.1 q.2.1 q.2.2.1 q.2.2.2) (fun q hq ih => h q.1 q.2.1 q.2.2.1 q.2.2.2 hq (fun a' b' e' f' h1 h2 => ih (a', b', e', f') h1 h2)) (a, b, e, f) hP
end
section
/-! small rules for the walks that a program writes -/
theorem X_bi {n v : Int} {st : List Value} (h : (Int8.ofInt n).toInt32 = Int32.ofInt v) : xop (.bipush n) st = some (iv v :: st) := by simp only [xop, h]
theorem X_si {n v : Int} {st : List Value} (h : (Int16.ofInt n).toInt32 = Int32.ofInt v) : xop (.sipush n) st = some (iv v :: st) := by simp only [xop, h]
theorem X_ic {n : Int} {st : List Value} : xop (.iconst n) st = some (iv n :: st) := rfl
theorem X_lc {n : Fin 2} {v : Int} {st : List Value} (h : Int64.ofNat (n : Nat) = Int64.ofInt v) : xop (.lconst n) st = some (jv v :: st) := by simp only [xop, h]
theorem T_iinc {xs : Nat × (Nat → Int32)} {J : ZS → Prop} {d m pc pc' k nL : Nat} {n x : Int} {L L' : XL} {st : List Value} {Q : Option Value → ZS → Prop} {a1 a2 p : Nat} {c : Int} (hz : zc m pc = some (.iinc k n, a1, a2, c, p)) (hn : zMl m = nL) (hk : Nat.blt k nL = true) (hg : xget L k = some (iv x)) (hL : xput k (iv (x + n)) L = L') (hp' : pc + 3 = pc') (kk : TJ xs J d m pc' L' st Q) : TJ xs J d m pc L st Q := by
  refine T_st (st' := st) (L' := L') hz hn rfl rfl rfl ?_ hp' kk
  simp only [xst]
  rw [if_pos (by simpa using hk), hg]
  simp only
  rw [← Int32.ofInt_add, hL]
end
section
/-! walks with what is known of single places: J any, the first part of it IF -/
section LGN
variable {xs : Nat × (Nat → Int32)} {d m pc pc' : Nat} {L L' : XL} {st st' r : List Value} {Q : Option Value → ZS → Prop} {a1 a2 p : Nat} {c : Int} {t i k : Nat} {lo hi : Int} {ln : Nat} {J J' : ZS → Prop}
theorem G_know (h : ∀ σ', J σ' → J' σ') (kk : TJ xs J' d m pc L st Q) : TJ xs J d m pc L st Q := fun σ hJ => kk σ (h σ hJ)
theorem G_ex {P : Prop} (kk : P → TJ xs J d m pc L st Q) : TJ xs (fun σ' => P ∧ J σ') d m pc L st Q := fun σ hJ => kk hJ.1 σ hJ.2
theorem G_norm {x : Int} (kk : ∀ z : Int, -2147483648 ≤ z → z ≤ 2147483647 → TJ xs J d m pc L (iv z :: r) Q) : TJ xs J d m pc L (iv x :: r) Q := by
  have h := kk (Int32.ofInt x).toInt (Int32.le_toInt _) (Int32.toInt_le _)
  rwa [iv_of] at h
theorem G_unk {ii : Instr} {x y : Int} (hz : zc m pc = some (ii, a1, a2, c, p)) (hu : xun ii = true) (hp' : pc + 1 = pc') (kk : ∀ z : Int, -2147483648 ≤ z → z ≤ 2147483647 → TJ xs J d m pc' L (iv z :: r) Q) : TJ xs J d m pc L (iv y :: iv x :: r) Q := by
  subst hp'
  exact T_unk hz hu (fun z => G_norm kk)
theorem G_unkD {ii : Instr} {x y : Int} (hz : zc m pc = some (ii, a1, a2, c, p)) (hu : ii = .idiv ∨ ii = .irem) (hy : 0 < y ∧ y ≤ 2147483647) (hp' : pc + 1 = pc') (kk : ∀ z : Int, -2147483648 ≤ z → z ≤ 2147483647 → TJ xs J d m pc' L (iv z :: r) Q) : TJ xs J d m pc L (iv y :: iv x :: r) Q := by
  subst hp'
  exact T_unkD hz hu (I_ne0 hy) (fun z => G_norm kk)
theorem G_unkI {ii : Instr} {x : Int} (hz : zc m pc = some (ii, a1, a2, c, p)) (hu : xunI ii = true) (hp' : pc + 1 = pc') (kk : ∀ z : Int, -2147483648 ≤ z → z ≤ 2147483647 → TJ xs J d m pc' L (iv z :: r) Q) : TJ xs J d m pc L (iv x :: r) Q := by
  subst hp'
  exact T_unkI hz hu (fun z => G_norm kk)
theorem G_rem {x y : Int} (hz : zc m pc = some (.irem, a1, a2, c, p)) (hx : 0 ≤ x ∧ x ≤ 2147483647) (hy : 0 < y ∧ y ≤ 2147483647) (hp' : pc + 1 = pc') (kk : ∀ z : Int, 0 ≤ z → z < y → TJ xs J d m pc' L (iv z :: r) Q) : TJ xs J d m pc L (iv y :: iv x :: r) Q :=
  T_op hz rfl (X_rem hx hy) hp' (kk _ (Int.emod_nonneg x (by omega)) (Int.emod_lt_of_pos x hy.1))
theorem G_getX {idx ci jj : Nat} {w : Int} (hz : zc m pc = some (.getfield idx, ci, jj, c, p)) (hs : slotI t ci jj = true) (hv : vd t i k) (hP : ∀ σ', J σ' → σ' t i k jj = w) (hp' : pc + 3 = pc') (kk : TJ xs J d m pc' L (iv w :: r) Q) : TJ xs J d m pc L (av t i k :: r) Q :=
  T_getf (Pp := fun v => v = w) hz hs hv hP hp' (fun y hy => by subst hy; exact kk)
theorem G_getf {idx ci jj : Nat} (hz : zc m pc = some (.getfield idx, ci, jj, c, p)) (hs : slotI t ci jj = true) (hv : vd t i k) (hI : ∀ σ', J σ' → Inv σ') (hP : ∀ v, rgP t jj v → lo ≤ v ∧ v ≤ hi) (hp' : pc + 3 = pc') (kk : ∀ y, lo ≤ y → y ≤ hi → TJ xs J d m pc' L (iv y :: r) Q) : TJ xs J d m pc L (av t i k :: r) Q :=
  T_getf (Pp := fun v => lo ≤ v ∧ v ≤ hi) hz hs hv (fun σ hσ => hP _ (hI σ hσ t i k jj hv)) hp' (fun y hy => kk y hy.1 hy.2)
theorem G_ialdX {x w : Int} (hz : zc m pc = some (.iaload, a1, a2, c, p)) (hs : arrK t 12 = true) (hln : tln t = ln) (hv : vd t i k) (h0 : 0 ≤ x) (h1 : x < ln) (h2 : x ≤ 2147483647) (hP : ∀ σ', J σ' → σ' t i k x.toNat = w) (hp' : pc + 1 = pc') (kk : TJ xs J d m pc' L (iv w :: r) Q) : TJ xs J d m pc L (iv x :: av t i k :: r) Q :=
  T_iald (Pp := fun v => v = w) hz hs hv h0 (by rw [hln]; exact h1) h2 hP hp' (fun y hy => by subst hy; exact kk)
theorem G_iald {x : Int} (hz : zc m pc = some (.iaload, a1, a2, c, p)) (hs : arrK t 12 = true) (hln : tln t = ln) (hv : vd t i k) (h0 : 0 ≤ x) (h1 : x < ln) (h2 : x ≤ 2147483647) (hI : ∀ σ', J σ' → Inv σ') (hP : ∀ v, rgP t x.toNat v → lo ≤ v ∧ v ≤ hi) (hp' : pc + 1 = pc') (kk : ∀ y, lo ≤ y → y ≤ hi → TJ xs J d m pc' L (iv y :: r) Q) : TJ xs J d m pc L (iv x :: av t i k :: r) Q :=
  T_iald (Pp := fun v => lo ≤ v ∧ v ≤ hi) hz hs hv h0 (by rw [hln]; exact h1) h2 (fun σ hσ => hP _ (hI σ hσ t i k _ hv)) hp' (fun y hy => kk y hy.1 hy.2)
theorem G_baldX {x w : Int} (hz : zc m pc = some (.baload, a1, a2, c, p)) (hs : arrK t 14 = true) (hln : tln t = ln) (hv : vd t i k) (h0 : 0 ≤ x) (h1 : x < ln) (h2 : x ≤ 2147483647) (hP : ∀ σ', J σ' → σ' t i k x.toNat = w) (hp' : pc + 1 = pc') (kk : TJ xs J d m pc' L (iv w :: r) Q) : TJ xs J d m pc L (iv x :: av t i k :: r) Q :=
  T_bald (Pp := fun v => v = w) hz hs hv h0 (by rw [hln]; exact h1) h2 hP hp' (fun y hy => by subst hy; exact kk)
theorem G_bald {x : Int} (hz : zc m pc = some (.baload, a1, a2, c, p)) (hs : arrK t 14 = true) (hln : tln t = ln) (hv : vd t i k) (h0 : 0 ≤ x) (h1 : x < ln) (h2 : x ≤ 2147483647) (hI : ∀ σ', J σ' → Inv σ') (hP : ∀ v, rgP t x.toNat v → lo ≤ v ∧ v ≤ hi) (hp' : pc + 1 = pc') (kk : ∀ y, lo ≤ y → y ≤ hi → TJ xs J d m pc' L (iv y :: r) Q) : TJ xs J d m pc L (iv x :: av t i k :: r) Q :=
  T_bald (Pp := fun v => lo ≤ v ∧ v ≤ hi) hz hs hv h0 (by rw [hln]; exact h1) h2 (fun σ hσ => hP _ (hI σ hσ t i k _ hv)) hp' (fun y hy => kk y hy.1 hy.2)
theorem G_lald {x : Int} (hz : zc m pc = some (.laload, a1, a2, c, p)) (hs : arrK t 13 = true) (hln : tln t = ln) (hv : vd t i k) (h0 : 0 ≤ x) (h1 : x < ln) (h2 : x ≤ 2147483647) (hp' : pc + 1 = pc') (kk : ∀ y, TJ xs J d m pc' L (jv y :: r) Q) : TJ xs J d m pc L (iv x :: av t i k :: r) Q :=
  T_laldE hz hs hv h0 (by rw [hln]; exact h1) h2 hp' (fun y σ hJ => kk y σ hJ.1)
theorem G_aald {x : Int} {t' im i' : Nat} (hz : zc m pc = some (.aaload, a1, a2, c, p)) (hs : arrQ t t' im = true) (hi' : ixi im i = i') (hln : tln t = ln) (hv : vd t i k) (h0 : 0 ≤ x) (h1 : x < ln) (h2 : x ≤ 2147483647) (hp' : pc + 1 = pc') (kk : TJ xs J d m pc' L (av t' i' x.toNat :: r) Q) : TJ xs J d m pc L (iv x :: av t i k :: r) Q :=
  T_aald hz hs hi' hv h0 (by rw [hln]; exact h1) h2 hp' kk
theorem G_iast {x v : Int} (hz : zc m pc = some (.iastore, a1, a2, c, p)) (hs : arrK t 12 = true) (hln : tln t = ln) (hv : vd t i k) (h0 : 0 ≤ x) (h1 : x < ln) (h2 : x ≤ 2147483647) (hJ' : ∀ σ', J σ' → J' (up σ' t i k x.toNat v)) (hp' : pc + 1 = pc') (kk : TJ xs J' d m pc' L r Q) : TJ xs J d m pc L (iv v :: iv x :: av t i k :: r) Q := T_iast hz hs hv h0 (by rw [hln]; exact h1) h2 hJ' hp' kk
theorem G_bast {x v : Int} (hz : zc m pc = some (.bastore, a1, a2, c, p)) (hs : arrK t 14 = true) (hln : tln t = ln) (hb : v = 0 ∨ v = 1) (hv : vd t i k) (h0 : 0 ≤ x) (h1 : x < ln) (h2 : x ≤ 2147483647) (hJ' : ∀ σ', J σ' → J' (up σ' t i k x.toNat v)) (hp' : pc + 1 = pc') (kk : TJ xs J' d m pc' L r Q) : TJ xs J d m pc L (iv v :: iv x :: av t i k :: r) Q := T_bast hz hs hb hv h0 (by rw [hln]; exact h1) h2 hJ' hp' kk
theorem G_last {x v : Int} (hz : zc m pc = some (.lastore, a1, a2, c, p)) (hs : arrK t 13 = true) (hln : tln t = ln) (hv : vd t i k) (h0 : 0 ≤ x) (h1 : x < ln) (h2 : x ≤ 2147483647) (hJ' : ∀ σ', J σ' → J' (up σ' t i k x.toNat v)) (hp' : pc + 1 = pc') (kk : TJ xs J' d m pc' L r Q) : TJ xs J d m pc L (jv v :: iv x :: av t i k :: r) Q := T_last hz hs hv h0 (by rw [hln]; exact h1) h2 hJ' hp' kk
/-- copying a row -/
theorem xcpy_hp {t0 i0 k0 : Nat} {σ σ' : ZS} {x0 x1 n : Int} {kk : Nat} (hk : kk = 12 ∨ kk = 13) (hs0 : arrK t0 kk = true) (hs1 : arrK t kk = true) (hv0 : vd t0 i0 k0) (hv1 : vd t i k) {l0 l1 : Nat} (hl0 : tln t0 = l0) (hl1 : tln t = l1) (h0 : 0 ≤ x0 ∧ x0 ≤ 2147483647) (h1 : 0 ≤ x1 ∧ x1 ≤ 2147483647) (hn : 0 ≤ n ∧ n ≤ 2147483647) (hb0 : x0 + n ≤ l0) (hb1 : x1 + n ≤ l1)
    (he : σ' = upr σ t i k (fun j => if x1.toNat ≤ j ∧ j < x1.toNat + n.toNat then σ t0 i0 k0 (x0.toNat + (j - x1.toNat)) else σ t i k j)) : xcpy (hp σ) (ad t0 i0 k0) (ad t i k) (kd t0, tln t0, sv σ t0 i0 k0) (kd t, tln t, sv σ t i k) (Int32.ofInt x0) (Int32.ofInt x1) (Int32.ofInt n) = some (hp σ') := by
  have nn : ∀ z : Int, 0 ≤ z → z ≤ 2147483647 → ¬ Int32.ofInt z < 0 ∧ (Int32.ofInt z).toNatClampNeg = z.toNat := by
    intro z g1 g2
    obtain ⟨e1, e2⟩ := I_idx (n := z.toNat + 1) g1 (by omega) g2
    exact ⟨fun q => e1 (Or.inl q), e2⟩
  obtain ⟨g1, g2⟩ := nn x0 h0.1 h0.2
  obtain ⟨g3, g4⟩ := nn x1 h1.1 h1.2
  obtain ⟨g5, g6⟩ := nn n hn.1 hn.2
  have k0' : kd t0 = kk := by simp only [arrK, Bool.and_eq_true, beq_iff_eq] at hs0; exact hs0.1
  have k1' : kd t = kk := by simp only [arrK, Bool.and_eq_true, beq_iff_eq] at hs1; exact hs1.1
  unfold xcpy
  rw [if_pos ⟨by simp only [k0']; exact hk, by simp only [k0', k1'], g1, g3, g5, by rw [g2, g6]; show _ ≤ tln t0; rw [hl0]; omega, by rw [g4, g6]; show _ ≤ tln t; rw [hl1]; omega⟩]
  refine congrArg some (hp_set hv1 (fun j => ?_) (fun t' i' k' hne => by rw [he]; exact upr_oth t' i' k' hne))
  have e3 : σ' t i k j = if x1.toNat ≤ j ∧ j < x1.toNat + n.toNat then σ t0 i0 k0 (x0.toNat + (j - x1.toNat)) else σ t i k j := by
    rw [he]
    unfold upr
    rw [if_pos ⟨rfl, rfl, rfl⟩]
  rw [g2, g4, g6]
  rcases hk with rfl | rfl
  · rw [(sv_A hs1 (by decide)).1, e3]
    simp only [va_cpy]
    split
    · rw [(sv_A hs0 (by decide)).1]
    · rw [(sv_A hs1 (by decide)).1]
  · rw [(sv_J hs1).1, e3]
    simp only [va_cpy]
    split
    · rw [(sv_J hs0).1]
    · rw [(sv_J hs1).1]
theorem G_copy {ii : Instr} {t0 i0 k0 l0 l1 kk : Nat} {x0 x1 n : Int} (hz : zc m pc = some (ii, a1, 6, c, p)) (hi : xinv ii = true) (hcat : Nat.ble (r.map fun v => v.category).sum 8 = true) (hk : kk = 12 ∨ kk = 13) (hs0 : arrK t0 kk = true) (hs1 : arrK t kk = true) (hl0 : tln t0 = l0) (hl1 : tln t = l1) (hv0 : vd t0 i0 k0) (hv1 : vd t i k) (h0 : 0 ≤ x0 ∧ x0 ≤ 2147483647) (h1 : 0 ≤ x1 ∧ x1 ≤ 2147483647) (hn : 0 ≤ n ∧ n ≤ 2147483647) (hb0 : x0 + n ≤ l0) (hb1 : x1 + n ≤ l1)
    (hJ' : ∀ σ', J σ' → J' (upr σ' t i k (fun j => if x1.toNat ≤ j ∧ j < x1.toNat + n.toNat then σ' t0 i0 k0 (x0.toNat + (j - x1.toNat)) else σ' t i k j))) (hp' : pc + 3 = pc') (kk' : TJ xs J' d m pc' L r Q) : TJ xs J d m pc L (iv n :: iv x1 :: av t i k :: iv x0 :: av t0 i0 k0 :: r) Q := fun σ hJ => by
  have hc : (r.map fun v => v.category).sum ≤ 8 := by simpa using hcat
  refine TT.step (h := []) (fun call => ?_) (kk' _ (hJ' σ hJ))
  rw [xone_nat (st' := r) (h' := hp (upr σ t i k (fun j => if x1.toNat ≤ j ∧ j < x1.toNat + n.toNat then σ t0 i0 k0 (x0.toNat + (j - x1.toNat)) else σ t i k j))) hz hi rfl ?_, hp']
  simp only [xnat]
  rw [if_neg (by decide), if_pos trivial, if_pos hc]
  simp only [hp_get hv0, hp_get hv1]
  rw [xcpy_hp hk hs0 hs1 hv0 hv1 hl0 hl1 h0 h1 hn hb0 hb1 rfl]
end LGN
theorem up_rng {σ : ZS} {t i k j0 jl jh : Nat} {v w : Int} (h : ∀ j, jl ≤ j → j < jh → σ t i k j = v) (hv : w = v) : ∀ j, jl ≤ j → j < jh → up σ t i k j0 w t i k j = v := by
  intro j h1 h2
  by_cases hj : j = j0
  · subst hj; rw [up_eq]; exact hv
  · rw [up_ne (fun q => hj q.2.2.2)]; exact h j h1 h2
theorem up_rngn {σ : ZS} {t i k j0 t' i' k' jl jh : Nat} {v w : Int} (h : ∀ j, jl ≤ j → j < jh → σ t i k j = v) (hn : ¬ (t = t' ∧ i = i' ∧ k = k')) : ∀ j, jl ≤ j → j < jh → up σ t' i' k' j0 w t i k j = v := fun j h1 h2 => (up_ne (fun q => hn ⟨q.1, q.2.1, q.2.2.1⟩)).trans (h j h1 h2)
theorem up_rngj {σ : ZS} {t i k j0 jl jh : Nat} {v w : Int} (h : ∀ j, jl ≤ j → j < jh → σ t i k j = v) (hn : ¬ (jl ≤ j0 ∧ j0 < jh)) : ∀ j, jl ≤ j → j < jh → up σ t i k j0 w t i k j = v := fun j h1 h2 => (up_ne (fun q => hn ⟨by rw [← q.2.2.2]; exact h1, by rw [← q.2.2.2]; exact h2⟩)).trans (h j h1 h2)
/-- a row that is copied stays within what its places may hold -/
theorem IF.cp {M : Nat → Nat → Nat → Nat → Prop} {σ0 σ : ZS} {t i k : Nat} {f : Nat → Int} (h : IF M σ0 σ) (hw : ∀ j, rgP t j (f j)) (hM : ∀ j, M t i k j) : IF M σ0 (upr σ t i k f) := by
  refine ⟨fun t' i' k' j' hv => ?_, fun t' i' k' j' hn => ?_⟩
  · by_cases hq : t' = t ∧ i' = i ∧ k' = k
    · obtain ⟨rfl, rfl, rfl⟩ := hq
      unfold upr
      rw [if_pos ⟨rfl, rfl, rfl⟩]
      exact hw j'
    · rw [upr_oth _ _ _ hq]
      exact h.1 t' i' k' j' hv
  · rw [upr_oth _ _ _ (fun q => hn (by rw [q.1, q.2.1, q.2.2]; exact hM j'))]
    exact h.2 t' i' k' j' hn
theorem G_ct {xs : Nat × (Nat → Int32)} {d m nL : Nat} {a : List Value} {L : XL} {σ : ZS} {Q : Option Value → ZS → Prop} {J : ZS → Prop} (hn : zMl m = nL) (hl : Nat.ble (lg_sl a).length nL = true) (hL : xent 0 a = L) (hJ : J σ) (h : TJ xs J d m 0 L [] Q) : CT xs (d + 1) m a σ Q := CT.of hn (by simpa using hl) hL (h σ hJ)
theorem T_opc {xs : Nat × (Nat → Int32)} {d m pc pc' : Nat} {L : XL} {st r : List Value} {Q : Option Value → ZS → Prop} {J : ZS → Prop} {i : Instr} {a1 a2 p : Nat} {c w x : Int} (hz : zc m pc = some (i, a1, a2, c, p)) (h1 : xinv i = false) (ho : xop i st = some (iv x :: r)) (hw : x = w) (hp' : pc + zLen i = pc') (k : TJ xs J d m pc' L (iv w :: r) Q) : TJ xs J d m pc L st Q := by
  subst hw
  exact T_op hz h1 ho hp' k
theorem T_callr {xs : Nat × (Nat → Int32)} {d m pc pc' : Nat} {L : XL} {st r : List Value} {Q : Option Value → ZS → Prop} {J J' : ZS → Prop} {p t i k : Nat} {ii : Instr} {cal mode : Nat} {N : Int} {a : List Value} (hz : zc m pc = some (ii, cal, mode, N, p)) (hi : xinv ii = true) (hm : Nat.blt mode 5 = true) (ha : (st.take N.toNat).reverse = a) (hr : st.drop N.toNat = r) (hl : Nat.ble N.toNat st.length = true) (hcat : Nat.ble (r.map fun v => v.category).sum 8 = true) (hv : xrv mode (zMo cal) a) (hC : ∀ σ, J σ → CT xs d cal a σ (fun v σ' => v = some (av t i k) ∧ J' σ')) (hp' : pc + 3 = pc') (kk : TJ xs J' d m pc' L (av t i k :: r) Q) : TJ xs J d m pc L st Q := fun σ hJ =>
  TT.call hz hi hm ha hr hl hcat hv (hC σ hJ) (fun v σ' ⟨hy, hK⟩ => by subst hy; subst hp'; exact kk σ' hK)
theorem rg_cp {t n b : Nat} {f g : Nat → Int} {t0 : Nat} (ht : ∀ j j' v, rgP t0 j' v → rgP t j v) (hf : ∀ j, rgP t0 j (f j)) (hg : ∀ j, rgP t j (g j)) : ∀ j, rgP t j (if b ≤ j ∧ j < b + n then f (j - b) else g j) := by
  intro j
  split
  · exact ht _ _ _ (hf _)
  · exact hg j
theorem upr_cp0 {σ : ZS} {t i k t0 i0 k0 n : Nat} {x0 x1 m : Int} {v : Int} (h : ∀ j, 0 ≤ j → j < n → σ t0 i0 k0 j = v) (h0 : x0 = 0 ∧ x1 = 0) (hm : m = n) : ∀ j, 0 ≤ j → j < n → upr σ t i k (fun j => if x1.toNat ≤ j ∧ j < x1.toNat + m.toNat then σ t0 i0 k0 (x0.toNat + (j - x1.toNat)) else σ t i k j) t i k j = v := by
  intro j _ hj
  unfold upr
  rw [if_pos ⟨rfl, rfl, rfl⟩]
  dsimp only
  rw [if_pos (by omega)]
  have : x0.toNat + (j - x1.toNat) = j := by omega
  rw [this]
  exact h j (Nat.zero_le _) hj
end
section
/-- a row copied place by place -/
theorem rg_cp0 {t t0 n : Nat} {f g : Nat → Int} {x0 x1 : Int} (hx : x0 = x1) (ht : ∀ j v, rgP t0 j v → rgP t j v) (hf : ∀ j, rgP t0 j (f j)) (hg : ∀ j, rgP t j (g j)) : ∀ j, rgP t j (if x1.toNat ≤ j ∧ j < x1.toNat + n then f (x0.toNat + (j - x1.toNat)) else g j) := by
  intro j
  split
  · next hj =>
    have : x0.toNat + (j - x1.toNat) = j := by omega
    rw [this]
    exact ht _ _ (hf _)
  · exact hg j
end
section
theorem zk_18_0 : zc 18 0 = some (.iconst 0, 0, 0, 0, 0) := rfl
theorem zk_18_1 : zc 18 1 = some (.istore_n 1, 0, 0, 0, 0) := rfl
theorem zk_18_2 : zc 18 2 = some (.iconst 0, 0, 0, 0, 0) := rfl
theorem zk_18_3 : zc 18 3 = some (.istore_n 2, 0, 0, 0, 0) := rfl
theorem zk_18_4 : zc 18 4 = some (.iload_n 2, 0, 0, 0, 0) := rfl
theorem zk_18_5 : zc 18 5 = some (.aload_n 0, 0, 0, 0, 0) := rfl
theorem zk_18_6 : zc 18 6 = some (.getfield 172, 2, 7, 0, 38) := rfl
theorem zk_18_9 : zc 18 9 = some (.if_icmp .ge 25, 34, 0, 0, 0) := rfl
theorem zk_18_34 : zc 18 34 = some (.iload_n 1, 0, 0, 0, 0) := rfl
theorem zk_18_35 : zc 18 35 = some (.ireturn, 0, 0, 0, 0) := rfl
theorem zk_19_0 : zc 19 0 = some (.iconst 0, 0, 0, 0, 0) := rfl
theorem zk_19_1 : zc 19 1 = some (.istore_n 1, 0, 0, 0, 0) := rfl
theorem zk_19_2 : zc 19 2 = some (.iconst 0, 0, 0, 0, 0) := rfl
theorem zk_19_3 : zc 19 3 = some (.istore_n 2, 0, 0, 0, 0) := rfl
theorem zk_19_4 : zc 19 4 = some (.iload_n 2, 0, 0, 0, 0) := rfl
theorem zk_19_5 : zc 19 5 = some (.aload_n 0, 0, 0, 0, 0) := rfl
theorem zk_19_6 : zc 19 6 = some (.getfield 159, 2, 5, 0, 35) := rfl
theorem zk_19_9 : zc 19 9 = some (.if_icmp .ge 24, 33, 0, 0, 0) := rfl
theorem zk_19_33 : zc 19 33 = some (.iload_n 1, 0, 0, 0, 0) := rfl
theorem zk_19_34 : zc 19 34 = some (.ireturn, 0, 0, 0, 0) := rfl
theorem zk_20_0 : zc 20 0 = some (.iconst 0, 0, 0, 0, 0) := rfl
theorem zk_20_1 : zc 20 1 = some (.istore_n 2, 0, 0, 0, 0) := rfl
theorem zk_20_2 : zc 20 2 = some (.iload_n 2, 0, 0, 0, 0) := rfl
theorem zk_20_3 : zc 20 3 = some (.aload_n 0, 0, 0, 0, 0) := rfl
theorem zk_20_4 : zc 20 4 = some (.getfield 159, 2, 5, 0, 35) := rfl
theorem zk_20_7 : zc 20 7 = some (.if_icmp .ge 32, 39, 0, 0, 0) := rfl
theorem zk_20_39 : zc 20 39 = some (.return_, 0, 0, 0, 0) := rfl
theorem zk_21_0 : zc 21 0 = some (.iconst 0, 0, 0, 0, 0) := rfl
theorem zk_21_1 : zc 21 1 = some (.istore_n 1, 0, 0, 0, 0) := rfl
theorem zk_21_2 : zc 21 2 = some (.iconst 0, 0, 0, 0, 0) := rfl
theorem zk_21_3 : zc 21 3 = some (.istore_n 2, 0, 0, 0, 0) := rfl
theorem zk_21_4 : zc 21 4 = some (.iload_n 2, 0, 0, 0, 0) := rfl
theorem zk_21_5 : zc 21 5 = some (.aload_n 0, 0, 0, 0, 0) := rfl
theorem zk_21_6 : zc 21 6 = some (.getfield 135, 2, 6, 0, 30) := rfl
theorem zk_21_9 : zc 21 9 = some (.if_icmp .ge 24, 33, 0, 0, 0) := rfl
theorem zk_21_33 : zc 21 33 = some (.iconst 0, 0, 0, 0, 0) := rfl
theorem zk_21_34 : zc 21 34 = some (.istore_n 2, 0, 0, 0, 0) := rfl
theorem zk_21_35 : zc 21 35 = some (.iload_n 2, 0, 0, 0, 0) := rfl
theorem zk_21_36 : zc 21 36 = some (.aload_n 0, 0, 0, 0, 0) := rfl
theorem zk_21_37 : zc 21 37 = some (.getfield 172, 2, 7, 0, 38) := rfl
theorem zk_21_40 : zc 21 40 = some (.if_icmp .ge 21, 61, 0, 0, 0) := rfl
theorem zk_21_61 : zc 21 61 = some (.iload_n 1, 0, 0, 0, 0) := rfl
theorem zk_21_62 : zc 21 62 = some (.ireturn, 0, 0, 0, 0) := rfl
theorem zk_30_0 : zc 30 0 = some (.iload_n 0, 0, 0, 0, 0) := rfl
theorem zk_30_1 : zc 30 1 = some (.invokestatic 43, 115, 3, 1, 48) := rfl
theorem zk_30_4 : zc 30 4 = some (.ifCond .eq 10, 14, 0, 0, 0) := rfl
theorem zk_30_7 : zc 30 7 = some (.iload_n 1, 0, 0, 0, 0) := rfl
theorem zk_30_8 : zc 30 8 = some (.invokestatic 43, 115, 3, 1, 48) := rfl
theorem zk_30_11 : zc 30 11 = some (.ifCond .ne 5, 16, 0, 0, 0) := rfl
theorem zk_30_14 : zc 30 14 = some (.iconst (-1), 0, 0, 0, 0) := rfl
theorem zk_30_15 : zc 30 15 = some (.ireturn, 0, 0, 0, 0) := rfl
theorem zk_30_16 : zc 30 16 = some (.iload_n 0, 0, 0, 0, 0) := rfl
theorem zk_30_17 : zc 30 17 = some (.iload_n 1, 0, 0, 0, 0) := rfl
theorem zk_30_18 : zc 30 18 = some (.invokestatic 47, 0, 8, 0, 49) := rfl
theorem zk_30_21 : zc 30 21 = some (.istore_n 2, 0, 0, 0, 0) := rfl
theorem zk_30_22 : zc 30 22 = some (.iload_n 0, 0, 0, 0, 0) := rfl
theorem zk_30_23 : zc 30 23 = some (.iload_n 1, 0, 0, 0, 0) := rfl
theorem zk_30_24 : zc 30 24 = some (.invokestatic 53, 0, 7, 0, 50) := rfl
theorem zk_30_27 : zc 30 27 = some (.iload_n 2, 0, 0, 0, 0) := rfl
theorem zk_30_28 : zc 30 28 = some (.isub, 0, 0, 0, 0) := rfl
theorem zk_30_29 : zc 30 29 = some (.istore_n 3, 0, 0, 0, 0) := rfl
theorem zk_30_30 : zc 30 30 = some (.iload_n 3, 0, 0, 0, 0) := rfl
theorem zk_30_31 : zc 30 31 = some (.iconst 1, 0, 0, 0, 0) := rfl
theorem zk_30_32 : zc 30 32 = some (.if_icmp .ne 16, 48, 0, 0, 0) := rfl
theorem zk_30_35 : zc 30 35 = some (.iload_n 2, 0, 0, 0, 0) := rfl
theorem zk_30_36 : zc 30 36 = some (.iconst 5, 0, 0, 0, 0) := rfl
theorem zk_30_37 : zc 30 37 = some (.irem, 0, 0, 0, 0) := rfl
theorem zk_30_38 : zc 30 38 = some (.iconst 4, 0, 0, 0, 0) := rfl
theorem zk_30_39 : zc 30 39 = some (.if_icmp .ge 9, 48, 0, 0, 0) := rfl
theorem zk_30_42 : zc 30 42 = some (.iload_n 2, 0, 0, 0, 0) := rfl
theorem zk_30_43 : zc 30 43 = some (.iload_n 2, 0, 0, 0, 0) := rfl
theorem zk_30_44 : zc 30 44 = some (.iconst 5, 0, 0, 0, 0) := rfl
theorem zk_30_45 : zc 30 45 = some (.idiv, 0, 0, 0, 0) := rfl
theorem zk_30_46 : zc 30 46 = some (.isub, 0, 0, 0, 0) := rfl
theorem zk_30_47 : zc 30 47 = some (.ireturn, 0, 0, 0, 0) := rfl
theorem zk_30_48 : zc 30 48 = some (.iload_n 3, 0, 0, 0, 0) := rfl
theorem zk_30_49 : zc 30 49 = some (.iconst 5, 0, 0, 0, 0) := rfl
theorem zk_30_50 : zc 30 50 = some (.if_icmp .ne 10, 60, 0, 0, 0) := rfl
theorem zk_30_53 : zc 30 53 = some (.bipush 20, 0, 0, 0, 0) := rfl
theorem zk_30_55 : zc 30 55 = some (.iload_n 2, 0, 0, 0, 0) := rfl
theorem zk_30_56 : zc 30 56 = some (.iadd, 0, 0, 0, 0) := rfl
theorem zk_30_57 : zc 30 57 = some (.goto 4, 61, 0, 0, 0) := rfl
theorem zk_30_60 : zc 30 60 = some (.iconst (-1), 0, 0, 0, 0) := rfl
theorem zk_30_61 : zc 30 61 = some (.ireturn, 0, 0, 0, 0) := rfl
theorem zk_31_0 : zc 31 0 = some (.iload_n 0, 0, 0, 0, 0) := rfl
theorem zk_31_1 : zc 31 1 = some (.bipush 20, 0, 0, 0, 0) := rfl
theorem zk_31_3 : zc 31 3 = some (.if_icmp .ge 11, 14, 0, 0, 0) := rfl
theorem zk_31_6 : zc 31 6 = some (.iload_n 0, 0, 0, 0, 0) := rfl
theorem zk_31_7 : zc 31 7 = some (.iload_n 0, 0, 0, 0, 0) := rfl
theorem zk_31_8 : zc 31 8 = some (.iconst 4, 0, 0, 0, 0) := rfl
theorem zk_31_9 : zc 31 9 = some (.idiv, 0, 0, 0, 0) := rfl
theorem zk_31_10 : zc 31 10 = some (.iadd, 0, 0, 0, 0) := rfl
theorem zk_31_11 : zc 31 11 = some (.goto 7, 18, 0, 0, 0) := rfl
theorem zk_31_14 : zc 31 14 = some (.iload_n 0, 0, 0, 0, 0) := rfl
theorem zk_31_15 : zc 31 15 = some (.bipush 20, 0, 0, 0, 0) := rfl
theorem zk_31_17 : zc 31 17 = some (.isub, 0, 0, 0, 0) := rfl
theorem zk_31_18 : zc 31 18 = some (.ireturn, 0, 0, 0, 0) := rfl
theorem zk_32_0 : zc 32 0 = some (.iload_n 0, 0, 0, 0, 0) := rfl
theorem zk_32_1 : zc 32 1 = some (.bipush 20, 0, 0, 0, 0) := rfl
theorem zk_32_3 : zc 32 3 = some (.if_icmp .ge 13, 16, 0, 0, 0) := rfl
theorem zk_32_6 : zc 32 6 = some (.iload_n 0, 0, 0, 0, 0) := rfl
theorem zk_32_7 : zc 32 7 = some (.iload_n 0, 0, 0, 0, 0) := rfl
theorem zk_32_8 : zc 32 8 = some (.iconst 4, 0, 0, 0, 0) := rfl
theorem zk_32_9 : zc 32 9 = some (.idiv, 0, 0, 0, 0) := rfl
theorem zk_32_10 : zc 32 10 = some (.iadd, 0, 0, 0, 0) := rfl
theorem zk_32_11 : zc 32 11 = some (.iconst 1, 0, 0, 0, 0) := rfl
theorem zk_32_12 : zc 32 12 = some (.iadd, 0, 0, 0, 0) := rfl
theorem zk_32_13 : zc 32 13 = some (.goto 9, 22, 0, 0, 0) := rfl
theorem zk_32_16 : zc 32 16 = some (.iload_n 0, 0, 0, 0, 0) := rfl
theorem zk_32_17 : zc 32 17 = some (.bipush 20, 0, 0, 0, 0) := rfl
theorem zk_32_19 : zc 32 19 = some (.isub, 0, 0, 0, 0) := rfl
theorem zk_32_20 : zc 32 20 = some (.iconst 5, 0, 0, 0, 0) := rfl
theorem zk_32_21 : zc 32 21 = some (.iadd, 0, 0, 0, 0) := rfl
theorem zk_32_22 : zc 32 22 = some (.ireturn, 0, 0, 0, 0) := rfl
theorem zk_33_0 : zc 33 0 = some (.aload_n 0, 0, 0, 0, 0) := rfl
theorem zk_33_1 : zc 33 1 = some (.getfield 15, 4, 1, 0, 60) := rfl
theorem zk_33_4 : zc 33 4 = some (.iconst 0, 0, 0, 0, 0) := rfl
theorem zk_33_5 : zc 33 5 = some (.iaload, 0, 0, 0, 0) := rfl
theorem zk_33_6 : zc 33 6 = some (.istore_n 1, 0, 0, 0, 0) := rfl
theorem zk_33_7 : zc 33 7 = some (.iconst 1, 0, 0, 0, 0) := rfl
theorem zk_33_8 : zc 33 8 = some (.istore_n 2, 0, 0, 0, 0) := rfl
theorem zk_33_9 : zc 33 9 = some (.iload_n 2, 0, 0, 0, 0) := rfl
theorem zk_33_10 : zc 33 10 = some (.bipush 25, 0, 0, 0, 0) := rfl
theorem zk_33_12 : zc 33 12 = some (.if_icmp .ge 20, 32, 0, 0, 0) := rfl
theorem zk_33_15 : zc 33 15 = some (.iload_n 1, 0, 0, 0, 0) := rfl
theorem zk_33_16 : zc 33 16 = some (.aload_n 0, 0, 0, 0, 0) := rfl
theorem zk_33_17 : zc 33 17 = some (.getfield 15, 4, 1, 0, 60) := rfl
theorem zk_33_20 : zc 33 20 = some (.iload_n 2, 0, 0, 0, 0) := rfl
theorem zk_33_21 : zc 33 21 = some (.iaload, 0, 0, 0, 0) := rfl
theorem zk_33_22 : zc 33 22 = some (.invokestatic 53, 0, 7, 0, 50) := rfl
theorem zk_33_25 : zc 33 25 = some (.istore_n 1, 0, 0, 0, 0) := rfl
theorem zk_33_26 : zc 33 26 = some (.iinc 2 1, 0, 0, 0, 0) := rfl
theorem zk_33_29 : zc 33 29 = some (.goto (-20), 9, 0, 0, 0) := rfl
theorem zk_33_32 : zc 33 32 = some (.iload_n 1, 0, 0, 0, 0) := rfl
theorem zk_33_33 : zc 33 33 = some (.ireturn, 0, 0, 0, 0) := rfl
theorem zk_34_0 : zc 34 0 = some (.iconst 0, 0, 0, 0, 0) := rfl
theorem zk_34_1 : zc 34 1 = some (.istore_n 1, 0, 0, 0, 0) := rfl
theorem zk_34_2 : zc 34 2 = some (.iconst 0, 0, 0, 0, 0) := rfl
theorem zk_34_3 : zc 34 3 = some (.istore_n 2, 0, 0, 0, 0) := rfl
theorem zk_34_4 : zc 34 4 = some (.iload_n 2, 0, 0, 0, 0) := rfl
theorem zk_34_5 : zc 34 5 = some (.bipush 25, 0, 0, 0, 0) := rfl
theorem zk_34_7 : zc 34 7 = some (.if_icmp .ge 18, 25, 0, 0, 0) := rfl
theorem zk_34_10 : zc 34 10 = some (.iload_n 1, 0, 0, 0, 0) := rfl
theorem zk_34_11 : zc 34 11 = some (.aload_n 0, 0, 0, 0, 0) := rfl
theorem zk_34_12 : zc 34 12 = some (.getfield 15, 4, 1, 0, 60) := rfl
theorem zk_34_15 : zc 34 15 = some (.iload_n 2, 0, 0, 0, 0) := rfl
theorem zk_34_16 : zc 34 16 = some (.iaload, 0, 0, 0, 0) := rfl
theorem zk_34_17 : zc 34 17 = some (.iadd, 0, 0, 0, 0) := rfl
theorem zk_34_18 : zc 34 18 = some (.istore_n 1, 0, 0, 0, 0) := rfl
theorem zk_34_19 : zc 34 19 = some (.iinc 2 1, 0, 0, 0, 0) := rfl
theorem zk_34_22 : zc 34 22 = some (.goto (-18), 4, 0, 0, 0) := rfl
theorem zk_34_25 : zc 34 25 = some (.iload_n 1, 0, 0, 0, 0) := rfl
theorem zk_34_26 : zc 34 26 = some (.ireturn, 0, 0, 0, 0) := rfl
theorem zk_61_0 : zc 61 0 = some (.aload_n 0, 0, 0, 0, 0) := rfl
theorem zk_61_1 : zc 61 1 = some (.getfield 9, 7, 1, 0, 80) := rfl
theorem zk_61_4 : zc 61 4 = some (.aload_n 0, 0, 0, 0, 0) := rfl
theorem zk_61_5 : zc 61 5 = some (.getfield 19, 7, 0, 0, 82) := rfl
theorem zk_61_8 : zc 61 8 = some (.iload_n 1, 0, 0, 0, 0) := rfl
theorem zk_61_9 : zc 61 9 = some (.iastore, 0, 0, 0, 0) := rfl
theorem zk_61_10 : zc 61 10 = some (.aload_n 0, 0, 0, 0, 0) := rfl
theorem zk_61_11 : zc 61 11 = some (.getfield 15, 7, 2, 0, 81) := rfl
theorem zk_61_14 : zc 61 14 = some (.aload_n 0, 0, 0, 0, 0) := rfl
theorem zk_61_15 : zc 61 15 = some (.getfield 19, 7, 0, 0, 82) := rfl
theorem zk_61_18 : zc 61 18 = some (.iconst 0, 0, 0, 0, 0) := rfl
theorem zk_61_19 : zc 61 19 = some (.bastore, 0, 0, 0, 0) := rfl
theorem zk_61_20 : zc 61 20 = some (.aload_n 0, 0, 0, 0, 0) := rfl
theorem zk_61_21 : zc 61 21 = some (.dup, 0, 0, 0, 0) := rfl
theorem zk_61_22 : zc 61 22 = some (.getfield 19, 7, 0, 0, 82) := rfl
theorem zk_61_25 : zc 61 25 = some (.iconst 1, 0, 0, 0, 0) := rfl
theorem zk_61_26 : zc 61 26 = some (.iadd, 0, 0, 0, 0) := rfl
theorem zk_61_27 : zc 61 27 = some (.putfield 19, 7, 0, 0, 82) := rfl
theorem zk_61_30 : zc 61 30 = some (.aload_n 0, 0, 0, 0, 0) := rfl
theorem zk_61_31 : zc 61 31 = some (.getfield 19, 7, 0, 0, 82) := rfl
theorem zk_61_34 : zc 61 34 = some (.iconst 1, 0, 0, 0, 0) := rfl
theorem zk_61_35 : zc 61 35 = some (.isub, 0, 0, 0, 0) := rfl
theorem zk_61_36 : zc 61 36 = some (.ireturn, 0, 0, 0, 0) := rfl
theorem zk_62_0 : zc 62 0 = some (.iconst 0, 0, 0, 0, 0) := rfl
theorem zk_62_1 : zc 62 1 = some (.istore_n 2, 0, 0, 0, 0) := rfl
theorem zk_62_2 : zc 62 2 = some (.iload_n 2, 0, 0, 0, 0) := rfl
theorem zk_62_3 : zc 62 3 = some (.aload_n 0, 0, 0, 0, 0) := rfl
theorem zk_62_4 : zc 62 4 = some (.getfield 19, 7, 0, 0, 82) := rfl
theorem zk_62_7 : zc 62 7 = some (.if_icmp .ge 21, 28, 0, 0, 0) := rfl
theorem zk_62_28 : zc 62 28 = some (.iconst (-1), 0, 0, 0, 0) := rfl
theorem zk_62_29 : zc 62 29 = some (.ireturn, 0, 0, 0, 0) := rfl
theorem zk_63_0 : zc 63 0 = some (.iconst 0, 0, 0, 0, 0) := rfl
theorem zk_63_1 : zc 63 1 = some (.istore_n 1, 0, 0, 0, 0) := rfl
theorem zk_63_2 : zc 63 2 = some (.iconst 0, 0, 0, 0, 0) := rfl
theorem zk_63_3 : zc 63 3 = some (.istore_n 2, 0, 0, 0, 0) := rfl
theorem zk_63_4 : zc 63 4 = some (.iload_n 2, 0, 0, 0, 0) := rfl
theorem zk_63_5 : zc 63 5 = some (.aload_n 0, 0, 0, 0, 0) := rfl
theorem zk_63_6 : zc 63 6 = some (.getfield 19, 7, 0, 0, 82) := rfl
theorem zk_63_9 : zc 63 9 = some (.if_icmp .ge 21, 30, 0, 0, 0) := rfl
theorem zk_63_30 : zc 63 30 = some (.iload_n 1, 0, 0, 0, 0) := rfl
theorem zk_63_31 : zc 63 31 = some (.ireturn, 0, 0, 0, 0) := rfl
theorem zk_73_0 : zc 73 0 = some (.aload_n 0, 0, 0, 0, 0) := rfl
theorem zk_73_1 : zc 73 1 = some (.getfield 21, 9, 0, 0, 89) := rfl
theorem zk_73_4 : zc 73 4 = some (.ifCond .le 7, 11, 0, 0, 0) := rfl
theorem zk_73_11 : zc 73 11 = some (.iconst 0, 0, 0, 0, 0) := rfl
theorem zk_73_12 : zc 73 12 = some (.goto 14, 26, 0, 0, 0) := rfl
theorem zk_73_26 : zc 73 26 = some (.ireturn, 0, 0, 0, 0) := rfl
theorem zk_113_0 : zc 113 0 = some (.iload_n 1, 0, 0, 0, 0) := rfl
theorem zk_113_1 : zc 113 1 = some (.ineg, 0, 0, 0, 0) := rfl
theorem zk_113_2 : zc 113 2 = some (.iconst 1, 0, 0, 0, 0) := rfl
theorem zk_113_3 : zc 113 3 = some (.bipush 7, 0, 0, 0, 0) := rfl
theorem zk_113_5 : zc 113 5 = some (.invokestatic 52, 114, 1, 3, 89) := rfl
theorem zk_113_8 : zc 113 8 = some (.ifCond .eq 14, 22, 0, 0, 0) := rfl
theorem zk_113_11 : zc 113 11 = some (.aload_n 0, 0, 0, 0, 0) := rfl
theorem zk_113_12 : zc 113 12 = some (.getfield 28, 10, 5, 0, 95) := rfl
theorem zk_113_15 : zc 113 15 = some (.iload_n 1, 0, 0, 0, 0) := rfl
theorem zk_113_16 : zc 113 16 = some (.ineg, 0, 0, 0, 0) := rfl
theorem zk_113_17 : zc 113 17 = some (.dup2, 0, 0, 0, 0) := rfl
theorem zk_113_18 : zc 113 18 = some (.iaload, 0, 0, 0, 0) := rfl
theorem zk_113_19 : zc 113 19 = some (.iconst 1, 0, 0, 0, 0) := rfl
theorem zk_113_20 : zc 113 20 = some (.iadd, 0, 0, 0, 0) := rfl
theorem zk_113_21 : zc 113 21 = some (.iastore, 0, 0, 0, 0) := rfl
theorem zk_113_22 : zc 113 22 = some (.iload_n 1, 0, 0, 0, 0) := rfl
theorem zk_113_23 : zc 113 23 = some (.ireturn, 0, 0, 0, 0) := rfl
theorem zk_114_0 : zc 114 0 = some (.iload_n 0, 0, 0, 0, 0) := rfl
theorem zk_114_1 : zc 114 1 = some (.iload_n 1, 0, 0, 0, 0) := rfl
theorem zk_114_2 : zc 114 2 = some (.if_icmp .lt 12, 14, 0, 0, 0) := rfl
theorem zk_114_5 : zc 114 5 = some (.iload_n 0, 0, 0, 0, 0) := rfl
theorem zk_114_6 : zc 114 6 = some (.iload_n 2, 0, 0, 0, 0) := rfl
theorem zk_114_7 : zc 114 7 = some (.if_icmp .gt 7, 14, 0, 0, 0) := rfl
theorem zk_114_10 : zc 114 10 = some (.iconst 1, 0, 0, 0, 0) := rfl
theorem zk_114_11 : zc 114 11 = some (.goto 4, 15, 0, 0, 0) := rfl
theorem zk_114_14 : zc 114 14 = some (.iconst 0, 0, 0, 0, 0) := rfl
theorem zk_114_15 : zc 114 15 = some (.ireturn, 0, 0, 0, 0) := rfl
theorem zk_115_0 : zc 115 0 = some (.iload_n 0, 0, 0, 0, 0) := rfl
theorem zk_115_1 : zc 115 1 = some (.ifCond .lt 13, 14, 0, 0, 0) := rfl
theorem zk_115_4 : zc 115 4 = some (.iload_n 0, 0, 0, 0, 0) := rfl
theorem zk_115_5 : zc 115 5 = some (.bipush 25, 0, 0, 0, 0) := rfl
theorem zk_115_7 : zc 115 7 = some (.if_icmp .ge 7, 14, 0, 0, 0) := rfl
theorem zk_115_10 : zc 115 10 = some (.iconst 1, 0, 0, 0, 0) := rfl
theorem zk_115_11 : zc 115 11 = some (.goto 4, 15, 0, 0, 0) := rfl
theorem zk_115_14 : zc 115 14 = some (.iconst 0, 0, 0, 0, 0) := rfl
theorem zk_115_15 : zc 115 15 = some (.ireturn, 0, 0, 0, 0) := rfl
theorem zk_116_0 : zc 116 0 = some (.iload_n 0, 0, 0, 0, 0) := rfl
theorem zk_116_1 : zc 116 1 = some (.ifCond .lt 13, 14, 0, 0, 0) := rfl
theorem zk_116_4 : zc 116 4 = some (.iload_n 0, 0, 0, 0, 0) := rfl
theorem zk_116_5 : zc 116 5 = some (.bipush 8, 0, 0, 0, 0) := rfl
theorem zk_116_7 : zc 116 7 = some (.if_icmp .ge 7, 14, 0, 0, 0) := rfl
theorem zk_116_10 : zc 116 10 = some (.iconst 1, 0, 0, 0, 0) := rfl
theorem zk_116_11 : zc 116 11 = some (.goto 4, 15, 0, 0, 0) := rfl
theorem zk_116_14 : zc 116 14 = some (.iconst 0, 0, 0, 0, 0) := rfl
theorem zk_116_15 : zc 116 15 = some (.ireturn, 0, 0, 0, 0) := rfl
theorem zk_117_0 : zc 117 0 = some (.iload_n 1, 0, 0, 0, 0) := rfl
theorem zk_117_1 : zc 117 1 = some (.ifCond .lt 18, 19, 0, 0, 0) := rfl
theorem zk_117_4 : zc 117 4 = some (.iload_n 1, 0, 0, 0, 0) := rfl
theorem zk_117_5 : zc 117 5 = some (.aload_n 0, 0, 0, 0, 0) := rfl
theorem zk_117_6 : zc 117 6 = some (.getfield 10, 10, 0, 0, 91) := rfl
theorem zk_117_9 : zc 117 9 = some (.getfield 252, 2, 6, 0, 126) := rfl
theorem zk_117_12 : zc 117 12 = some (.if_icmp .ge 7, 19, 0, 0, 0) := rfl
theorem zk_117_19 : zc 117 19 = some (.iconst 0, 0, 0, 0, 0) := rfl
theorem zk_117_20 : zc 117 20 = some (.ireturn, 0, 0, 0, 0) := rfl
theorem zk_118_0 : zc 118 0 = some (.iload_n 1, 0, 0, 0, 0) := rfl
theorem zk_118_1 : zc 118 1 = some (.ifCond .lt 18, 19, 0, 0, 0) := rfl
theorem zk_118_4 : zc 118 4 = some (.iload_n 1, 0, 0, 0, 0) := rfl
theorem zk_118_5 : zc 118 5 = some (.aload_n 0, 0, 0, 0, 0) := rfl
theorem zk_118_6 : zc 118 6 = some (.getfield 10, 10, 0, 0, 91) := rfl
theorem zk_118_9 : zc 118 9 = some (.getfield 265, 2, 7, 0, 128) := rfl
theorem zk_118_12 : zc 118 12 = some (.if_icmp .ge 7, 19, 0, 0, 0) := rfl
theorem zk_118_19 : zc 118 19 = some (.iconst 0, 0, 0, 0, 0) := rfl
theorem zk_118_20 : zc 118 20 = some (.ireturn, 0, 0, 0, 0) := rfl
theorem zk_121_0 : zc 121 0 = some (.iload_n 1, 0, 0, 0, 0) := rfl
theorem zk_121_1 : zc 121 1 = some (.ifCond .lt 16, 17, 0, 0, 0) := rfl
theorem zk_121_4 : zc 121 4 = some (.iload_n 1, 0, 0, 0, 0) := rfl
theorem zk_121_5 : zc 121 5 = some (.aload_n 0, 0, 0, 0, 0) := rfl
theorem zk_121_6 : zc 121 6 = some (.arraylength, 0, 0, 0, 0) := rfl
theorem zk_121_7 : zc 121 7 = some (.if_icmp .ge 10, 17, 0, 0, 0) := rfl
theorem zk_121_10 : zc 121 10 = some (.aload_n 0, 0, 0, 0, 0) := rfl
theorem zk_121_11 : zc 121 11 = some (.iload_n 1, 0, 0, 0, 0) := rfl
theorem zk_121_12 : zc 121 12 = some (.baload, 0, 0, 0, 0) := rfl
theorem zk_121_13 : zc 121 13 = some (.iload_n 2, 0, 0, 0, 0) := rfl
theorem zk_121_14 : zc 121 14 = some (.if_icmp .ne 5, 19, 0, 0, 0) := rfl
theorem zk_121_17 : zc 121 17 = some (.iconst 0, 0, 0, 0, 0) := rfl
theorem zk_121_18 : zc 121 18 = some (.ireturn, 0, 0, 0, 0) := rfl
theorem zk_121_19 : zc 121 19 = some (.aload_n 0, 0, 0, 0, 0) := rfl
theorem zk_121_20 : zc 121 20 = some (.iload_n 1, 0, 0, 0, 0) := rfl
theorem zk_121_21 : zc 121 21 = some (.iload_n 2, 0, 0, 0, 0) := rfl
theorem zk_121_22 : zc 121 22 = some (.bastore, 0, 0, 0, 0) := rfl
theorem zk_121_23 : zc 121 23 = some (.iconst 1, 0, 0, 0, 0) := rfl
theorem zk_121_24 : zc 121 24 = some (.ireturn, 0, 0, 0, 0) := rfl
def MT (a b c d : Nat) (t i k j : Nat) : Prop := t = a ∨ t = b ∨ t = c ∨ t = d
def ML (c : Nat) (t i k j : Nat) : Prop := i = c ∧ (t = 3 ∨ t = 4 ∨ t = 5 ∨ t = 6 ∨ t = 10 ∨ t = 13 ∨ t = 20 ∨ t = 21 ∨ t = 22 ∨ t = 25 ∨ t = 26 ∨ (t = 1 ∧ 13 ≤ j ∧ j ≤ 16))
def MY (c : Nat) (t i k j : Nat) : Prop := i = c ∧ 1 ≤ t ∧ t ≤ 26
/-- W.isWithin -/
theorem c_114 {xs : Nat × (Nat → Int32)} (p0 : Int) (p1 : Int) (p2 : Int) (h0 : -2147483648 ≤ p0 ∧ p0 ≤ 2147483647) (h1 : -2147483648 ≤ p1 ∧ p1 ≤ 2147483647) (h2 : -2147483648 ≤ p2 ∧ p2 ≤ 2147483647) (σ : ZS) (hI : Inv σ)   : CT xs 1 114 [iv p0, iv p1, iv p2] σ (fun v σ' => ∃ y, v = some (iv y) ∧ ((y = 0 ∧ (p0 < p1 ∨ p2 < p0)) ∨ (y = 1 ∧ p1 ≤ p0 ∧ p0 ≤ p2)) ∧ IF MN σ σ' ∧ (True)) := by
  refine G_ct (J := (fun σ' => IF MN σ σ' ∧ True)) (L := [(0, iv p0), (1, iv p1), (2, iv p2)]) (nL := 3) rfl rfl rfl ⟨IF.rf hI, trivial⟩ ?_
  refine T_ld zk_114_0 rfl rfl rfl (pc' := 1) rfl ?_
  refine T_ld zk_114_1 rfl rfl rfl (pc' := 2) rfl ?_
  refine T_icmp_lt zk_114_2 (by omega) (by omega) (pc' := 5) rfl (fun h1 => ?_) (fun h2 => ?_)
  ·
    refine T_op zk_114_14 rfl X_ic (pc' := 15) rfl ?_
    exact T_zret zk_114_15 rfl (by omega) (fun σ' h => ⟨_, rfl, (by omega), h.1, trivial⟩)
  ·
    refine T_ld zk_114_5 rfl rfl rfl (pc' := 6) rfl ?_
    refine T_ld zk_114_6 rfl rfl rfl (pc' := 7) rfl ?_
    refine T_icmp_gt zk_114_7 (by omega) (by omega) (pc' := 10) rfl (fun h3 => ?_) (fun h4 => ?_)
    ·
      refine T_op zk_114_14 rfl X_ic (pc' := 15) rfl ?_
      exact T_zret zk_114_15 rfl (by omega) (fun σ' h => ⟨_, rfl, (by omega), h.1, trivial⟩)
    ·
      refine T_op zk_114_10 rfl X_ic (pc' := 11) rfl ?_
      refine T_goto zk_114_11 ?_
      exact T_zret zk_114_15 rfl (by omega) (fun σ' h => ⟨_, rfl, (by omega), h.1, trivial⟩)
/-- W.isCell -/
theorem c_115 {xs : Nat × (Nat → Int32)} (p0 : Int) (h0 : -2147483648 ≤ p0 ∧ p0 ≤ 2147483647) (σ : ZS) (hI : Inv σ)   : CT xs 1 115 [iv p0] σ (fun v σ' => ∃ y, v = some (iv y) ∧ ((y = 0 ∧ (p0 < 0 ∨ 24 < p0)) ∨ (y = 1 ∧ 0 ≤ p0 ∧ p0 ≤ 24)) ∧ IF MN σ σ' ∧ (True)) := by
  refine G_ct (J := (fun σ' => IF MN σ σ' ∧ True)) (L := [(0, iv p0)]) (nL := 1) rfl rfl rfl ⟨IF.rf hI, trivial⟩ ?_
  refine T_ld zk_115_0 rfl rfl rfl (pc' := 1) rfl ?_
  refine T_if_lt zk_115_1 (by omega) (pc' := 4) rfl (fun h1 => ?_) (fun h2 => ?_)
  ·
    refine T_op zk_115_14 rfl X_ic (pc' := 15) rfl ?_
    exact T_zret zk_115_15 rfl (by omega) (fun σ' h => ⟨_, rfl, (by omega), h.1, trivial⟩)
  ·
    refine T_ld zk_115_4 rfl rfl rfl (pc' := 5) rfl ?_
    refine T_op zk_115_5 rfl (X_bi (v := 25) (by decide)) (pc' := 7) rfl ?_
    refine T_icmp_ge zk_115_7 (by omega) (by omega) (pc' := 10) rfl (fun h3 => ?_) (fun h4 => ?_)
    ·
      refine T_op zk_115_14 rfl X_ic (pc' := 15) rfl ?_
      exact T_zret zk_115_15 rfl (by omega) (fun σ' h => ⟨_, rfl, (by omega), h.1, trivial⟩)
    ·
      refine T_op zk_115_10 rfl X_ic (pc' := 11) rfl ?_
      refine T_goto zk_115_11 ?_
      exact T_zret zk_115_15 rfl (by omega) (fun σ' h => ⟨_, rfl, (by omega), h.1, trivial⟩)
/-- W.isShelf -/
theorem c_116 {xs : Nat × (Nat → Int32)} (p0 : Int) (h0 : -2147483648 ≤ p0 ∧ p0 ≤ 2147483647) (σ : ZS) (hI : Inv σ)   : CT xs 1 116 [iv p0] σ (fun v σ' => ∃ y, v = some (iv y) ∧ ((y = 0 ∧ (p0 < 0 ∨ 7 < p0)) ∨ (y = 1 ∧ 0 ≤ p0 ∧ p0 ≤ 7)) ∧ IF MN σ σ' ∧ (True)) := by
  refine G_ct (J := (fun σ' => IF MN σ σ' ∧ True)) (L := [(0, iv p0)]) (nL := 1) rfl rfl rfl ⟨IF.rf hI, trivial⟩ ?_
  refine T_ld zk_116_0 rfl rfl rfl (pc' := 1) rfl ?_
  refine T_if_lt zk_116_1 (by omega) (pc' := 4) rfl (fun h1 => ?_) (fun h2 => ?_)
  ·
    refine T_op zk_116_14 rfl X_ic (pc' := 15) rfl ?_
    exact T_zret zk_116_15 rfl (by omega) (fun σ' h => ⟨_, rfl, (by omega), h.1, trivial⟩)
  ·
    refine T_ld zk_116_4 rfl rfl rfl (pc' := 5) rfl ?_
    refine T_op zk_116_5 rfl (X_bi (v := 8) (by decide)) (pc' := 7) rfl ?_
    refine T_icmp_ge zk_116_7 (by omega) (by omega) (pc' := 10) rfl (fun h3 => ?_) (fun h4 => ?_)
    ·
      refine T_op zk_116_14 rfl X_ic (pc' := 15) rfl ?_
      exact T_zret zk_116_15 rfl (by omega) (fun σ' h => ⟨_, rfl, (by omega), h.1, trivial⟩)
    ·
      refine T_op zk_116_10 rfl X_ic (pc' := 11) rfl ?_
      refine T_goto zk_116_11 ?_
      exact T_zret zk_116_15 rfl (by omega) (fun σ' h => ⟨_, rfl, (by omega), h.1, trivial⟩)
/-- W$Lagoon.lowEnd -/
theorem c_31 {xs : Nat × (Nat → Int32)} (p0 : Int) (h0 : 0 ≤ p0 ∧ p0 ≤ 39) (σ : ZS) (hI : Inv σ)   : CT xs 1 31 [iv p0] σ (fun v σ' => ∃ y, v = some (iv y) ∧ (0 ≤ y ∧ y ≤ 24) ∧ IF MN σ σ' ∧ (True)) := by
  refine G_ct (J := (fun σ' => IF MN σ σ' ∧ True)) (L := [(0, iv p0)]) (nL := 1) rfl rfl rfl ⟨IF.rf hI, trivial⟩ ?_
  refine T_ld zk_31_0 rfl rfl rfl (pc' := 1) rfl ?_
  refine T_op zk_31_1 rfl (X_bi (v := 20) (by decide)) (pc' := 3) rfl ?_
  refine T_icmp_ge zk_31_3 (by omega) (by omega) (pc' := 6) rfl (fun h1 => ?_) (fun h2 => ?_)
  ·
    refine T_ld zk_31_14 rfl rfl rfl (pc' := 15) rfl ?_
    refine T_op zk_31_15 rfl (X_bi (v := 20) (by decide)) (pc' := 17) rfl ?_
    refine T_op zk_31_17 rfl X_sub (pc' := 18) rfl ?_
    exact T_iret zk_31_18 rfl (fun σ' h => ⟨_, rfl, (by omega), h.1, trivial⟩)
  ·
    refine T_ld zk_31_6 rfl rfl rfl (pc' := 7) rfl ?_
    refine T_ld zk_31_7 rfl rfl rfl (pc' := 8) rfl ?_
    refine T_op zk_31_8 rfl X_ic (pc' := 9) rfl ?_
    refine T_op zk_31_9 rfl (X_div (by omega) (by omega)) (pc' := 10) rfl ?_
    refine T_op zk_31_10 rfl X_add (pc' := 11) rfl ?_
    refine T_goto zk_31_11 ?_
    exact T_iret zk_31_18 rfl (fun σ' h => ⟨_, rfl, (by omega), h.1, trivial⟩)
/-- W$Lagoon.highEnd -/
theorem c_32 {xs : Nat × (Nat → Int32)} (p0 : Int) (h0 : 0 ≤ p0 ∧ p0 ≤ 39) (σ : ZS) (hI : Inv σ)   : CT xs 1 32 [iv p0] σ (fun v σ' => ∃ y, v = some (iv y) ∧ (0 ≤ y ∧ y ≤ 24) ∧ IF MN σ σ' ∧ (True)) := by
  refine G_ct (J := (fun σ' => IF MN σ σ' ∧ True)) (L := [(0, iv p0)]) (nL := 1) rfl rfl rfl ⟨IF.rf hI, trivial⟩ ?_
  refine T_ld zk_32_0 rfl rfl rfl (pc' := 1) rfl ?_
  refine T_op zk_32_1 rfl (X_bi (v := 20) (by decide)) (pc' := 3) rfl ?_
  refine T_icmp_ge zk_32_3 (by omega) (by omega) (pc' := 6) rfl (fun h1 => ?_) (fun h2 => ?_)
  ·
    refine T_ld zk_32_16 rfl rfl rfl (pc' := 17) rfl ?_
    refine T_op zk_32_17 rfl (X_bi (v := 20) (by decide)) (pc' := 19) rfl ?_
    refine T_op zk_32_19 rfl X_sub (pc' := 20) rfl ?_
    refine T_op zk_32_20 rfl X_ic (pc' := 21) rfl ?_
    refine T_op zk_32_21 rfl X_add (pc' := 22) rfl ?_
    exact T_iret zk_32_22 rfl (fun σ' h => ⟨_, rfl, (by omega), h.1, trivial⟩)
  ·
    refine T_ld zk_32_6 rfl rfl rfl (pc' := 7) rfl ?_
    refine T_ld zk_32_7 rfl rfl rfl (pc' := 8) rfl ?_
    refine T_op zk_32_8 rfl X_ic (pc' := 9) rfl ?_
    refine T_op zk_32_9 rfl (X_div (by omega) (by omega)) (pc' := 10) rfl ?_
    refine T_op zk_32_10 rfl X_add (pc' := 11) rfl ?_
    refine T_op zk_32_11 rfl X_ic (pc' := 12) rfl ?_
    refine T_op zk_32_12 rfl X_add (pc' := 13) rfl ?_
    refine T_goto zk_32_13 ?_
    exact T_iret zk_32_22 rfl (fun σ' h => ⟨_, rfl, (by omega), h.1, trivial⟩)
/-- W$Lagoon.wayBetween -/
theorem c_30 {xs : Nat × (Nat → Int32)} (p0 : Int) (p1 : Int) (h0 : -2147483648 ≤ p0 ∧ p0 ≤ 2147483647) (h1 : -2147483648 ≤ p1 ∧ p1 ≤ 2147483647) (σ : ZS) (hI : Inv σ)   : CT xs 2 30 [iv p0, iv p1] σ (fun v σ' => ∃ y, v = some (iv y) ∧ ((y = -1 ∧ ¬ (0 ≤ p0 ∧ p0 ≤ 24 ∧ 0 ≤ p1 ∧ p1 ≤ 24 ∧ (p1 = p0 + 5 ∨ p0 = p1 + 5 ∨ (p1 = p0 + 1 ∧ p0 % 5 < 4) ∨ (p0 = p1 + 1 ∧ p1 % 5 < 4)))) ∨ (0 ≤ y ∧ y ≤ 39 ∧ (0 ≤ p0 ∧ p0 ≤ 24 ∧ 0 ≤ p1 ∧ p1 ≤ 24 ∧ (p1 = p0 + 5 ∨ p0 = p1 + 5 ∨ (p1 = p0 + 1 ∧ p0 % 5 < 4) ∨ (p0 = p1 + 1 ∧ p1 % 5 < 4))))) ∧ IF MN σ σ' ∧ (True)) := by
  refine G_ct (J := (fun σ' => IF MN σ σ' ∧ True)) (L := [(0, iv p0), (1, iv p1)]) (nL := 4) rfl rfl rfl ⟨IF.rf hI, trivial⟩ ?_
  refine T_ld zk_30_0 rfl rfl rfl (pc' := 1) rfl ?_
  refine T_calli (K := fun y1 σ' => ((y1 = 0 ∧ (p0 < 0 ∨ 24 < p0)) ∨ (y1 = 1 ∧ 0 ≤ p0 ∧ p0 ≤ 24)) ∧ (fun σ' => IF MN σ σ' ∧ True) σ') (r := []) zk_30_1 rfl rfl rfl rfl rfl rfl (Or.inl (Or.inr rfl)) (fun σ' h => (c_115 p0 (by omega) σ' h.1.1 ).le (Nat.le_of_ble_eq_true rfl) (fun v σ2 ⟨y, h1, h2, h3, h4⟩ => ⟨y, h1, h2, h.1.tr h3 MN_sub, trivial⟩)) (pc' := 4) rfl (fun y1 => ?_)
  refine G_ex (fun hy1 => ?_)
  refine T_if_eq zk_30_4 (by omega) (pc' := 7) rfl (fun h2 => ?_) (fun h3 => ?_)
  ·
    refine T_op zk_30_14 rfl X_ic (pc' := 15) rfl ?_
    exact T_iret zk_30_15 rfl (fun σ' h => ⟨_, rfl, (by omega), h.1, trivial⟩)
  ·
    refine T_ld zk_30_7 rfl rfl rfl (pc' := 8) rfl ?_
    refine T_calli (K := fun y4 σ' => ((y4 = 0 ∧ (p1 < 0 ∨ 24 < p1)) ∨ (y4 = 1 ∧ 0 ≤ p1 ∧ p1 ≤ 24)) ∧ (fun σ' => IF MN σ σ' ∧ True) σ') (r := []) zk_30_8 rfl rfl rfl rfl rfl rfl (Or.inl (Or.inr rfl)) (fun σ' h => (c_115 p1 (by omega) σ' h.1.1 ).le (Nat.le_of_ble_eq_true rfl) (fun v σ2 ⟨y, h1, h2, h3, h4⟩ => ⟨y, h1, h2, h.1.tr h3 MN_sub, trivial⟩)) (pc' := 11) rfl (fun y4 => ?_)
    refine G_ex (fun hy4 => ?_)
    refine T_if_ne zk_30_11 (by omega) (pc' := 14) rfl (fun h5 => ?_) (fun h6 => ?_)
    ·
      refine T_ld zk_30_16 rfl rfl rfl (pc' := 17) rfl ?_
      refine T_ld zk_30_17 rfl rfl rfl (pc' := 18) rfl ?_
      refine T_min zk_30_18 rfl (by omega) (by omega) rfl (pc' := 21) rfl (fun y7 hy7 hy7' ey7 => ?_)
      refine T_st (L' := [(0, iv p0), (1, iv p1), (2, iv y7)]) zk_30_21 (nL := 4) rfl rfl rfl rfl rfl (pc' := 22) rfl ?_
      refine T_ld zk_30_22 rfl rfl rfl (pc' := 23) rfl ?_
      refine T_ld zk_30_23 rfl rfl rfl (pc' := 24) rfl ?_
      refine T_max zk_30_24 rfl (by omega) (by omega) rfl (pc' := 27) rfl (fun y8 hy8 hy8' ey8 => ?_)
      refine T_ld zk_30_27 rfl rfl rfl (pc' := 28) rfl ?_
      refine T_op zk_30_28 rfl X_sub (pc' := 29) rfl ?_
      refine T_st (L' := [(0, iv p0), (1, iv p1), (2, iv y7), (3, iv (y8 - y7))]) zk_30_29 (nL := 4) rfl rfl rfl rfl rfl (pc' := 30) rfl ?_
      refine T_ld zk_30_30 rfl rfl rfl (pc' := 31) rfl ?_
      refine T_op zk_30_31 rfl X_ic (pc' := 32) rfl ?_
      refine T_icmp_ne zk_30_32 (by omega) (by omega) (pc' := 35) rfl (fun h9 => ?_) (fun h10 => ?_)
      ·
        refine T_ld zk_30_48 rfl rfl rfl (pc' := 49) rfl ?_
        refine T_op zk_30_49 rfl X_ic (pc' := 50) rfl ?_
        refine T_icmp_ne zk_30_50 (by omega) (by omega) (pc' := 53) rfl (fun h11 => ?_) (fun h12 => ?_)
        ·
          refine T_op zk_30_60 rfl X_ic (pc' := 61) rfl ?_
          exact T_iret zk_30_61 rfl (fun σ' h => ⟨_, rfl, (by omega), h.1, trivial⟩)
        ·
          refine T_op zk_30_53 rfl (X_bi (v := 20) (by decide)) (pc' := 55) rfl ?_
          refine T_ld zk_30_55 rfl rfl rfl (pc' := 56) rfl ?_
          refine T_op zk_30_56 rfl X_add (pc' := 57) rfl ?_
          refine T_goto zk_30_57 ?_
          exact T_iret zk_30_61 rfl (fun σ' h => ⟨_, rfl, (by omega), h.1, trivial⟩)
      ·
        refine T_ld zk_30_35 rfl rfl rfl (pc' := 36) rfl ?_
        refine T_op zk_30_36 rfl X_ic (pc' := 37) rfl ?_
        refine T_op zk_30_37 rfl (X_rem (by omega) (by omega)) (pc' := 38) rfl ?_
        refine T_op zk_30_38 rfl X_ic (pc' := 39) rfl ?_
        refine T_icmp_ge zk_30_39 (by omega) (by omega) (pc' := 42) rfl (fun h13 => ?_) (fun h14 => ?_)
        ·
          refine T_ld zk_30_48 rfl rfl rfl (pc' := 49) rfl ?_
          refine T_op zk_30_49 rfl X_ic (pc' := 50) rfl ?_
          refine T_icmp_ne zk_30_50 (by omega) (by omega) (pc' := 53) rfl (fun h15 => ?_) (fun h16 => ?_)
          ·
            refine T_op zk_30_60 rfl X_ic (pc' := 61) rfl ?_
            exact T_iret zk_30_61 rfl (fun σ' h => ⟨_, rfl, (by omega), h.1, trivial⟩)
          · exfalso; omega
        ·
          refine T_ld zk_30_42 rfl rfl rfl (pc' := 43) rfl ?_
          refine T_ld zk_30_43 rfl rfl rfl (pc' := 44) rfl ?_
          refine T_op zk_30_44 rfl X_ic (pc' := 45) rfl ?_
          refine T_op zk_30_45 rfl (X_div (by omega) (by omega)) (pc' := 46) rfl ?_
          refine T_op zk_30_46 rfl X_sub (pc' := 47) rfl ?_
          exact T_iret zk_30_47 rfl (fun σ' h => ⟨_, rfl, (by omega), h.1, trivial⟩)
    ·
      refine T_op zk_30_14 rfl X_ic (pc' := 15) rfl ?_
      exact T_iret zk_30_15 rfl (fun σ' h => ⟨_, rfl, (by omega), h.1, trivial⟩)
/-- W.refuse -/
theorem c_113 {xs : Nat × (Nat → Int32)} (p0 : Int) (h0 : -7 ≤ p0 ∧ p0 ≤ -1) (σ : ZS) (hI : Inv σ)   : CT xs 2 113 [av 0 0 0, iv p0] σ (fun v σ' => ∃ y, v = some (iv y) ∧ (y = p0) ∧ IF (MT 28 28 28 28) σ σ' ∧ (True)) := by
  refine G_ct (J := (fun σ' => IF (MT 28 28 28 28) σ σ' ∧ True)) (L := [(0, av 0 0 0), (1, iv p0)]) (nL := 2) rfl rfl rfl ⟨IF.rf hI, trivial⟩ ?_
  refine T_ld zk_113_0 rfl rfl rfl (pc' := 1) rfl ?_
  refine T_op zk_113_1 rfl X_neg (pc' := 2) rfl ?_
  refine T_op zk_113_2 rfl X_ic (pc' := 3) rfl ?_
  refine T_op zk_113_3 rfl (X_bi (v := 7) (by decide)) (pc' := 5) rfl ?_
  refine T_calli (K := fun y1 σ' => ((y1 = 0 ∧ (-p0 < 1 ∨ 7 < -p0)) ∨ (y1 = 1 ∧ 1 ≤ -p0 ∧ -p0 ≤ 7)) ∧ (fun σ' => IF (MT 28 28 28 28) σ σ' ∧ True) σ') (r := []) zk_113_5 rfl rfl rfl rfl rfl rfl (Or.inl (Or.inl rfl)) (fun σ' h => (c_114 (-p0) 1 7 (by omega) (by omega) (by omega) σ' h.1.1 ).le (Nat.le_of_ble_eq_true rfl) (fun v σ2 ⟨y, h1, h2, h3, h4⟩ => ⟨y, h1, h2, h.1.tr h3 MN_sub, trivial⟩)) (pc' := 8) rfl (fun y1 => ?_)
  refine G_ex (fun hy1 => ?_)
  refine T_if_eq zk_113_8 (by omega) (pc' := 11) rfl (fun h2 => ?_) (fun h3 => ?_)
  ·
    refine T_ld zk_113_22 rfl rfl rfl (pc' := 23) rfl ?_
    exact T_iret zk_113_23 rfl (fun σ' h => ⟨_, rfl, (by omega), h.1, trivial⟩)
  ·
    refine T_ld zk_113_11 rfl rfl rfl (pc' := 12) rfl ?_
    refine T_getR (t' := 28) (i' := 0) (k' := 0) zk_113_12 rfl rfl rfl vd_0 (pc' := 15) rfl ?_
    refine T_ld zk_113_15 rfl rfl rfl (pc' := 16) rfl ?_
    refine T_op zk_113_16 rfl X_neg (pc' := 17) rfl ?_
    refine T_op (st' := [iv (-p0), av 28 0 0, iv (-p0), av 28 0 0]) zk_113_17 rfl rfl (pc' := 18) rfl ?_
    refine G_iald (lo := -2147483648) (hi := 2147483647) (ln := 8) zk_113_18 rfl rfl vd_28 (by omega) (by omega) (by omega) (fun σ' h => h.1.1) (fun _ h => h.1) (pc' := 19) rfl (fun y4 hy4 hy4' => ?_)
    refine T_op zk_113_19 rfl X_ic (pc' := 20) rfl ?_
    refine G_unk zk_113_20 rfl (pc' := 21) rfl (fun y5 hy5 hy5' => ?_)
    refine G_iast (J' := (fun σ' => IF (MT 28 28 28 28) σ σ' ∧ True)) (ln := 8) zk_113_21 rfl rfl vd_28 (by omega) (by omega) (by omega) (fun σ' h => ⟨h.1.up ⟨by omega, trivial⟩ (by unfold MT; omega), trivial⟩) (pc' := 22) rfl ?_
    refine T_ld zk_113_22 rfl rfl rfl (pc' := 23) rfl ?_
    exact T_iret zk_113_23 rfl (fun σ' h => ⟨_, rfl, (by omega), h.1, trivial⟩)
/-- W.isHouse -/
theorem c_117e {xs : Nat × (Nat → Int32)} (p0 : Int) (h0 : -2147483648 ≤ p0 ∧ p0 ≤ 2147483647) (σ : ZS) (hI : Inv σ)  (s1 : σ 1 0 0 6 = 0) : CT xs 1 117 [av 0 0 0, iv p0] σ (fun v σ' => ∃ y, v = some (iv y) ∧ (y = 0) ∧ IF MN σ σ' ∧ (True)) := by
  refine G_ct (J := (fun σ' => IF MN σ σ' ∧ True)) (L := [(0, av 0 0 0), (1, iv p0)]) (nL := 2) rfl rfl rfl ⟨IF.rf hI, trivial⟩ ?_
  refine T_ld zk_117_0 rfl rfl rfl (pc' := 1) rfl ?_
  refine T_if_lt zk_117_1 (by omega) (pc' := 4) rfl (fun h1 => ?_) (fun h2 => ?_)
  ·
    refine T_op zk_117_19 rfl X_ic (pc' := 20) rfl ?_
    exact T_zret zk_117_20 rfl (by omega) (fun σ' h => ⟨_, rfl, (by omega), h.1, trivial⟩)
  ·
    refine T_ld zk_117_4 rfl rfl rfl (pc' := 5) rfl ?_
    refine T_ld zk_117_5 rfl rfl rfl (pc' := 6) rfl ?_
    refine T_getR (t' := 1) (i' := 0) (k' := 0) zk_117_6 rfl rfl rfl vd_0 (pc' := 9) rfl ?_
    refine G_getX (w := 0) zk_117_9 rfl (vd_1 (by omega)) (fun σ' h => (h.1.2 _ _ _ _ (fun q => q)).trans s1) (pc' := 12) rfl ?_
    refine T_icmp_ge zk_117_12 (by omega) (by omega) (pc' := 15) rfl (fun h3 => ?_) (fun h4 => ?_)
    ·
      refine T_op zk_117_19 rfl X_ic (pc' := 20) rfl ?_
      exact T_zret zk_117_20 rfl (by omega) (fun σ' h => ⟨_, rfl, (by omega), h.1, trivial⟩)
    · exfalso; omega
/-- W.isBoat -/
theorem c_118e {xs : Nat × (Nat → Int32)} (p0 : Int) (h0 : -2147483648 ≤ p0 ∧ p0 ≤ 2147483647) (σ : ZS) (hI : Inv σ)  (s1 : σ 1 0 0 7 = 0) : CT xs 1 118 [av 0 0 0, iv p0] σ (fun v σ' => ∃ y, v = some (iv y) ∧ (y = 0) ∧ IF MN σ σ' ∧ (True)) := by
  refine G_ct (J := (fun σ' => IF MN σ σ' ∧ True)) (L := [(0, av 0 0 0), (1, iv p0)]) (nL := 2) rfl rfl rfl ⟨IF.rf hI, trivial⟩ ?_
  refine T_ld zk_118_0 rfl rfl rfl (pc' := 1) rfl ?_
  refine T_if_lt zk_118_1 (by omega) (pc' := 4) rfl (fun h1 => ?_) (fun h2 => ?_)
  ·
    refine T_op zk_118_19 rfl X_ic (pc' := 20) rfl ?_
    exact T_zret zk_118_20 rfl (by omega) (fun σ' h => ⟨_, rfl, (by omega), h.1, trivial⟩)
  ·
    refine T_ld zk_118_4 rfl rfl rfl (pc' := 5) rfl ?_
    refine T_ld zk_118_5 rfl rfl rfl (pc' := 6) rfl ?_
    refine T_getR (t' := 1) (i' := 0) (k' := 0) zk_118_6 rfl rfl rfl vd_0 (pc' := 9) rfl ?_
    refine G_getX (w := 0) zk_118_9 rfl (vd_1 (by omega)) (fun σ' h => (h.1.2 _ _ _ _ (fun q => q)).trans s1) (pc' := 12) rfl ?_
    refine T_icmp_ge zk_118_12 (by omega) (by omega) (pc' := 15) rfl (fun h3 => ?_) (fun h4 => ?_)
    ·
      refine T_op zk_118_19 rfl X_ic (pc' := 20) rfl ?_
      exact T_zret zk_118_20 rfl (by omega) (fun σ' h => ⟨_, rfl, (by omega), h.1, trivial⟩)
    · exfalso; omega
/-- W.turn -/
theorem c_121_8 {xs : Nat × (Nat → Int32)} (p0 : Int) (p1 : Int) (h0 : 0 ≤ p0 ∧ p0 ≤ 39) (h1 : 0 ≤ p1 ∧ p1 ≤ 1) (σ : ZS) (hI : Inv σ)  (s1 : (∀ j, 0 ≤ j → j < 40 → σ 8 0 0 j = 0)) : CT xs 1 121 [av 8 0 0, iv p0, iv p1] σ (fun v σ' => ∃ y, v = some (iv y) ∧ (y = p1) ∧ IF (MT 8 8 8 8) σ σ' ∧ (True)) := by
  refine G_ct (J := (fun σ' => IF (MT 8 8 8 8) σ σ' ∧ (∀ j, 0 ≤ j → j < 40 → σ' 8 0 0 j = 0) ∧ True)) (L := [(0, av 8 0 0), (1, iv p0), (2, iv p1)]) (nL := 3) rfl rfl rfl ⟨IF.rf hI, s1, trivial⟩ ?_
  refine T_ld zk_121_0 rfl rfl rfl (pc' := 1) rfl ?_
  refine T_if_lt zk_121_1 (by omega) (pc' := 4) rfl (fun h1 => ?_) (fun h2 => ?_)
  · exfalso; omega
  ·
    refine T_ld zk_121_4 rfl rfl rfl (pc' := 5) rfl ?_
    refine T_ld zk_121_5 rfl rfl rfl (pc' := 6) rfl ?_
    refine T_alen (n := 40) zk_121_6 rfl rfl (vd_8 (by omega)) (pc' := 7) rfl ?_
    refine T_icmp_ge zk_121_7 (by omega) (by omega) (pc' := 10) rfl (fun h3 => ?_) (fun h4 => ?_)
    · exfalso; omega
    ·
      refine T_ld zk_121_10 rfl rfl rfl (pc' := 11) rfl ?_
      refine T_ld zk_121_11 rfl rfl rfl (pc' := 12) rfl ?_
      refine G_baldX (w := 0) (ln := 40) zk_121_12 rfl rfl (vd_8 (by omega)) (by omega) (by omega) (by omega) (fun σ' h => h.2.1 _ (by omega) (by omega)) (pc' := 13) rfl ?_
      refine T_ld zk_121_13 rfl rfl rfl (pc' := 14) rfl ?_
      refine T_icmp_ne zk_121_14 (by omega) (by omega) (pc' := 17) rfl (fun h5 => ?_) (fun h6 => ?_)
      ·
        refine T_ld zk_121_19 rfl rfl rfl (pc' := 20) rfl ?_
        refine T_ld zk_121_20 rfl rfl rfl (pc' := 21) rfl ?_
        refine T_ld zk_121_21 rfl rfl rfl (pc' := 22) rfl ?_
        refine G_bast (J' := (fun σ' => IF (MT 8 8 8 8) σ σ' ∧ True)) (ln := 40) zk_121_22 rfl rfl (by omega) (vd_8 (by omega)) (by omega) (by omega) (by omega) (fun σ' h => ⟨h.1.up (by simp only [rgP] <;> omega) (by unfold MT; omega), trivial⟩) (pc' := 23) rfl ?_
        refine T_op zk_121_23 rfl X_ic (pc' := 24) rfl ?_
        exact T_iret zk_121_24 rfl (fun σ' h => ⟨_, rfl, (by omega), h.1, trivial⟩)
      ·
        refine T_op zk_121_17 rfl X_ic (pc' := 18) rfl ?_
        exact T_iret zk_121_18 rfl (fun σ' h => ⟨_, rfl, (by omega), h.1, trivial⟩)
/-- W.turn -/
theorem c_121_9 {xs : Nat × (Nat → Int32)} (p0 : Int) (p1 : Int) (h0 : 0 ≤ p0 ∧ p0 ≤ 39) (h1 : 0 ≤ p1 ∧ p1 ≤ 1) (σ : ZS) (hI : Inv σ)  (s1 : (∀ j, 0 ≤ j → j < 40 → σ 9 0 0 j = 0)) : CT xs 1 121 [av 9 0 0, iv p0, iv p1] σ (fun v σ' => ∃ y, v = some (iv y) ∧ (y = p1) ∧ IF (MT 9 9 9 9) σ σ' ∧ (True)) := by
  refine G_ct (J := (fun σ' => IF (MT 9 9 9 9) σ σ' ∧ (∀ j, 0 ≤ j → j < 40 → σ' 9 0 0 j = 0) ∧ True)) (L := [(0, av 9 0 0), (1, iv p0), (2, iv p1)]) (nL := 3) rfl rfl rfl ⟨IF.rf hI, s1, trivial⟩ ?_
  refine T_ld zk_121_0 rfl rfl rfl (pc' := 1) rfl ?_
  refine T_if_lt zk_121_1 (by omega) (pc' := 4) rfl (fun h1 => ?_) (fun h2 => ?_)
  · exfalso; omega
  ·
    refine T_ld zk_121_4 rfl rfl rfl (pc' := 5) rfl ?_
    refine T_ld zk_121_5 rfl rfl rfl (pc' := 6) rfl ?_
    refine T_alen (n := 40) zk_121_6 rfl rfl (vd_9 (by omega)) (pc' := 7) rfl ?_
    refine T_icmp_ge zk_121_7 (by omega) (by omega) (pc' := 10) rfl (fun h3 => ?_) (fun h4 => ?_)
    · exfalso; omega
    ·
      refine T_ld zk_121_10 rfl rfl rfl (pc' := 11) rfl ?_
      refine T_ld zk_121_11 rfl rfl rfl (pc' := 12) rfl ?_
      refine G_baldX (w := 0) (ln := 40) zk_121_12 rfl rfl (vd_9 (by omega)) (by omega) (by omega) (by omega) (fun σ' h => h.2.1 _ (by omega) (by omega)) (pc' := 13) rfl ?_
      refine T_ld zk_121_13 rfl rfl rfl (pc' := 14) rfl ?_
      refine T_icmp_ne zk_121_14 (by omega) (by omega) (pc' := 17) rfl (fun h5 => ?_) (fun h6 => ?_)
      ·
        refine T_ld zk_121_19 rfl rfl rfl (pc' := 20) rfl ?_
        refine T_ld zk_121_20 rfl rfl rfl (pc' := 21) rfl ?_
        refine T_ld zk_121_21 rfl rfl rfl (pc' := 22) rfl ?_
        refine G_bast (J' := (fun σ' => IF (MT 9 9 9 9) σ σ' ∧ True)) (ln := 40) zk_121_22 rfl rfl (by omega) (vd_9 (by omega)) (by omega) (by omega) (by omega) (fun σ' h => ⟨h.1.up (by simp only [rgP] <;> omega) (by unfold MT; omega), trivial⟩) (pc' := 23) rfl ?_
        refine T_op zk_121_23 rfl X_ic (pc' := 24) rfl ?_
        exact T_iret zk_121_24 rfl (fun σ' h => ⟨_, rfl, (by omega), h.1, trivial⟩)
      ·
        refine T_op zk_121_17 rfl X_ic (pc' := 18) rfl ?_
        exact T_iret zk_121_18 rfl (fun σ' h => ⟨_, rfl, (by omega), h.1, trivial⟩)
/-- W$Mouths.numberAt -/
theorem c_62e {xs : Nat × (Nat → Int32)} (c : Nat) (p0 : Int) (hc : c < 3) (h0 : -2147483648 ≤ p0 ∧ p0 ≤ 2147483647) (σ : ZS) (hI : Inv σ)  (s1 : σ 11 c 0 0 = 0) : CT xs 1 62 [av 11 c 0, iv p0] σ (fun v σ' => ∃ y, v = some (iv y) ∧ (y = -1) ∧ IF MN σ σ' ∧ (True)) := by
  refine G_ct (J := (fun σ' => IF MN σ σ' ∧ True)) (L := [(0, av 11 c 0), (1, iv p0)]) (nL := 3) rfl rfl rfl ⟨IF.rf hI, trivial⟩ ?_
  refine T_op zk_62_0 rfl X_ic (pc' := 1) rfl ?_
  refine T_st (L' := [(0, av 11 c 0), (1, iv p0), (2, iv 0)]) zk_62_1 (nL := 3) rfl rfl rfl rfl rfl (pc' := 2) rfl ?_
  refine T_loop1 (fun x1 => ((0 : Int)).toNat) (fun x1 => (0 ≤ x1 ∧ x1 ≤ 0)) (fun x1 => TJ xs (fun σ' => IF MN σ σ' ∧ True) 0 62 2 [(0, av 11 c 0), (1, iv p0), (2, iv x1)] [] _) ?_ 0 (by omega)
  intro x1 hp3 ih2
  refine T_ld zk_62_2 rfl rfl rfl (pc' := 3) rfl ?_
  refine T_ld zk_62_3 rfl rfl rfl (pc' := 4) rfl ?_
  refine G_getX (w := 0) zk_62_4 rfl (vd_11 hc) (fun σ' h => (h.1.2 _ _ _ _ (fun q => q)).trans s1) (pc' := 7) rfl ?_
  refine T_icmp_ge zk_62_7 (by omega) (by omega) (pc' := 10) rfl (fun h4 => ?_) (fun h5 => ?_)
  ·
    refine T_op zk_62_28 rfl X_ic (pc' := 29) rfl ?_
    exact T_iret zk_62_29 rfl (fun σ' h => ⟨_, rfl, (by omega), h.1, trivial⟩)
  · exfalso; omega
/-- W$Mouths.add -/
theorem c_61e {xs : Nat × (Nat → Int32)} (p0 : Int) (h0 : 0 ≤ p0 ∧ p0 ≤ 24) (σ : ZS) (hI : Inv σ)  (s1 : σ 11 0 0 0 = 0) : CT xs 1 61 [av 11 0 0, iv p0] σ (fun v σ' => ∃ y, v = some (iv y) ∧ (y = 0) ∧ IF (MT 11 12 13 13) σ σ' ∧ (True)) := by
  refine G_ct (J := (fun σ' => IF (MT 11 12 13 13) σ σ' ∧ σ' 11 0 0 0 = 0 ∧ True)) (L := [(0, av 11 0 0), (1, iv p0)]) (nL := 2) rfl rfl rfl ⟨IF.rf hI, s1, trivial⟩ ?_
  refine T_ld zk_61_0 rfl rfl rfl (pc' := 1) rfl ?_
  refine T_getR (t' := 12) (i' := 0) (k' := 0) zk_61_1 rfl rfl rfl (vd_11 (by omega)) (pc' := 4) rfl ?_
  refine T_ld zk_61_4 rfl rfl rfl (pc' := 5) rfl ?_
  refine G_getX (w := 0) zk_61_5 rfl (vd_11 (by omega)) (fun σ' h => h.2.1) (pc' := 8) rfl ?_
  refine T_ld zk_61_8 rfl rfl rfl (pc' := 9) rfl ?_
  refine G_iast (J' := (fun σ' => IF (MT 11 12 13 13) σ σ' ∧ σ' 11 0 0 0 = 0 ∧ True)) (ln := 3) zk_61_9 rfl rfl (vd_12 (by omega)) (by omega) (by omega) (by omega) (fun σ' h => ⟨h.1.up (by simp only [rgP] <;> omega) (by unfold MT; omega), (up_ne (by omega)).trans (h.2.1), trivial⟩) (pc' := 10) rfl ?_
  refine T_ld zk_61_10 rfl rfl rfl (pc' := 11) rfl ?_
  refine T_getR (t' := 13) (i' := 0) (k' := 0) zk_61_11 rfl rfl rfl (vd_11 (by omega)) (pc' := 14) rfl ?_
  refine T_ld zk_61_14 rfl rfl rfl (pc' := 15) rfl ?_
  refine G_getX (w := 0) zk_61_15 rfl (vd_11 (by omega)) (fun σ' h => h.2.1) (pc' := 18) rfl ?_
  refine T_op zk_61_18 rfl X_ic (pc' := 19) rfl ?_
  refine G_bast (J' := (fun σ' => IF (MT 11 12 13 13) σ σ' ∧ σ' 11 0 0 0 = 0 ∧ True)) (ln := 3) zk_61_19 rfl rfl (by omega) (vd_13 (by omega)) (by omega) (by omega) (by omega) (fun σ' h => ⟨h.1.up (by simp only [rgP] <;> omega) (by unfold MT; omega), (up_ne (by omega)).trans (h.2.1), trivial⟩) (pc' := 20) rfl ?_
  refine T_ld zk_61_20 rfl rfl rfl (pc' := 21) rfl ?_
  refine T_op (st' := [av 11 0 0, av 11 0 0]) zk_61_21 rfl rfl (pc' := 22) rfl ?_
  refine G_getX (w := 0) zk_61_22 rfl (vd_11 (by omega)) (fun σ' h => h.2.1) (pc' := 25) rfl ?_
  refine T_op zk_61_25 rfl X_ic (pc' := 26) rfl ?_
  refine T_opc (w := 1) zk_61_26 rfl X_add (by omega) (pc' := 27) rfl ?_
  refine T_putf (J' := (fun σ' => IF (MT 11 12 13 13) σ σ' ∧ σ' 11 0 0 0 = 1 ∧ True)) zk_61_27 rfl rfl (vd_11 (by omega)) (fun σ' h => ⟨h.1.up (by simp only [rgP] <;> omega) (by unfold MT; omega), up_eq, trivial⟩) (pc' := 30) rfl ?_
  refine T_ld zk_61_30 rfl rfl rfl (pc' := 31) rfl ?_
  refine G_getX (w := 1) zk_61_31 rfl (vd_11 (by omega)) (fun σ' h => h.2.1) (pc' := 34) rfl ?_
  refine T_op zk_61_34 rfl X_ic (pc' := 35) rfl ?_
  refine T_opc (w := 0) zk_61_35 rfl X_sub (by omega) (pc' := 36) rfl ?_
  exact T_iret zk_61_36 rfl (fun σ' h => ⟨_, rfl, (by omega), h.1, trivial⟩)
/-- W$Tide.heightIn -/
theorem c_73e {xs : Nat × (Nat → Int32)} (c k : Nat) (p0 : Int) (hc : c < 3) (hk : k < 2) (h0 : -2147483648 ≤ p0 ∧ p0 ≤ 2147483647) (σ : ZS) (hI : Inv σ)  (s1 : σ 17 c k 0 = 0) : CT xs 1 73 [av 17 c k, iv p0] σ (fun v σ' => ∃ y, v = some (iv y) ∧ (y = 0) ∧ IF MN σ σ' ∧ (True)) := by
  refine G_ct (J := (fun σ' => IF MN σ σ' ∧ True)) (L := [(0, av 17 c k), (1, iv p0)]) (nL := 2) rfl rfl rfl ⟨IF.rf hI, trivial⟩ ?_
  refine T_ld zk_73_0 rfl rfl rfl (pc' := 1) rfl ?_
  refine G_getX (w := 0) zk_73_1 rfl (vd_17 hc (by omega)) (fun σ' h => (h.1.2 _ _ _ _ (fun q => q)).trans s1) (pc' := 4) rfl ?_
  refine T_if_le zk_73_4 (by omega) (pc' := 7) rfl (fun h1 => ?_) (fun h2 => ?_)
  ·
    refine T_op zk_73_11 rfl X_ic (pc' := 12) rfl ?_
    refine T_goto zk_73_12 ?_
    exact T_iret zk_73_26 rfl (fun σ' h => ⟨_, rfl, (by omega), h.1, trivial⟩)
  · exfalso; omega
/-- W$City.boatsWithGoal -/
theorem c_18e {xs : Nat × (Nat → Int32)} (c : Nat) (hc : c < 3) (σ : ZS) (hI : Inv σ)  (s1 : σ 1 c 0 7 = 0) : CT xs 1 18 [av 1 c 0] σ (fun v σ' => ∃ y, v = some (iv y) ∧ (y = 0) ∧ IF MN σ σ' ∧ (True)) := by
  refine G_ct (J := (fun σ' => IF MN σ σ' ∧ True)) (L := [(0, av 1 c 0)]) (nL := 3) rfl rfl rfl ⟨IF.rf hI, trivial⟩ ?_
  refine T_op zk_18_0 rfl X_ic (pc' := 1) rfl ?_
  refine T_st (L' := [(0, av 1 c 0), (1, iv 0)]) zk_18_1 (nL := 3) rfl rfl rfl rfl rfl (pc' := 2) rfl ?_
  refine T_op zk_18_2 rfl X_ic (pc' := 3) rfl ?_
  refine T_st (L' := [(0, av 1 c 0), (1, iv 0), (2, iv 0)]) zk_18_3 (nL := 3) rfl rfl rfl rfl rfl (pc' := 4) rfl ?_
  refine T_loop2 (fun x1 x2 => ((0 : Int)).toNat) (fun x1 x2 => (0 ≤ x1 ∧ x1 ≤ 0) ∧ (0 ≤ x2 ∧ x2 ≤ 0)) (fun x1 x2 => TJ xs (fun σ' => IF MN σ σ' ∧ True) 0 18 4 [(0, av 1 c 0), (1, iv x1), (2, iv x2)] [] _) ?_ 0 0 (by omega)
  intro x1 x2 hp4 ih3
  refine T_ld zk_18_4 rfl rfl rfl (pc' := 5) rfl ?_
  refine T_ld zk_18_5 rfl rfl rfl (pc' := 6) rfl ?_
  refine G_getX (w := 0) zk_18_6 rfl (vd_1 hc) (fun σ' h => (h.1.2 _ _ _ _ (fun q => q)).trans s1) (pc' := 9) rfl ?_
  refine T_icmp_ge zk_18_9 (by omega) (by omega) (pc' := 12) rfl (fun h5 => ?_) (fun h6 => ?_)
  ·
    refine T_ld zk_18_34 rfl rfl rfl (pc' := 35) rfl ?_
    exact T_iret zk_18_35 rfl (fun σ' h => ⟨_, rfl, (by omega), h.1, trivial⟩)
  · exfalso; omega
/-- W$City.lawsInForce -/
theorem c_19e {xs : Nat × (Nat → Int32)} (c : Nat) (hc : c < 3) (σ : ZS) (hI : Inv σ)  (s1 : σ 1 c 0 5 = 0) : CT xs 1 19 [av 1 c 0] σ (fun v σ' => ∃ y, v = some (iv y) ∧ (y = 0) ∧ IF MN σ σ' ∧ (True)) := by
  refine G_ct (J := (fun σ' => IF MN σ σ' ∧ True)) (L := [(0, av 1 c 0)]) (nL := 3) rfl rfl rfl ⟨IF.rf hI, trivial⟩ ?_
  refine T_op zk_19_0 rfl X_ic (pc' := 1) rfl ?_
  refine T_st (L' := [(0, av 1 c 0), (1, iv 0)]) zk_19_1 (nL := 3) rfl rfl rfl rfl rfl (pc' := 2) rfl ?_
  refine T_op zk_19_2 rfl X_ic (pc' := 3) rfl ?_
  refine T_st (L' := [(0, av 1 c 0), (1, iv 0), (2, iv 0)]) zk_19_3 (nL := 3) rfl rfl rfl rfl rfl (pc' := 4) rfl ?_
  refine T_loop2 (fun x1 x2 => ((0 : Int)).toNat) (fun x1 x2 => (0 ≤ x1 ∧ x1 ≤ 0) ∧ (0 ≤ x2 ∧ x2 ≤ 0)) (fun x1 x2 => TJ xs (fun σ' => IF MN σ σ' ∧ True) 0 19 4 [(0, av 1 c 0), (1, iv x1), (2, iv x2)] [] _) ?_ 0 0 (by omega)
  intro x1 x2 hp4 ih3
  refine T_ld zk_19_4 rfl rfl rfl (pc' := 5) rfl ?_
  refine T_ld zk_19_5 rfl rfl rfl (pc' := 6) rfl ?_
  refine G_getX (w := 0) zk_19_6 rfl (vd_1 hc) (fun σ' h => (h.1.2 _ _ _ _ (fun q => q)).trans s1) (pc' := 9) rfl ?_
  refine T_icmp_ge zk_19_9 (by omega) (by omega) (pc' := 12) rfl (fun h5 => ?_) (fun h6 => ?_)
  ·
    refine T_ld zk_19_33 rfl rfl rfl (pc' := 34) rfl ?_
    exact T_iret zk_19_34 rfl (fun σ' h => ⟨_, rfl, (by omega), h.1, trivial⟩)
  · exfalso; omega
/-- W$City.enforce -/
theorem c_20e {xs : Nat × (Nat → Int32)} (c : Nat) (p0 : Int) (hc : c < 3) (h0 : -2147483648 ≤ p0 ∧ p0 ≤ 2147483647) (σ : ZS) (hI : Inv σ)  (s1 : σ 1 c 0 5 = 0) : CT xs 1 20 [av 1 c 0, iv p0] σ (fun v σ' => v = none ∧ IF MN σ σ' ∧ (True)) := by
  refine G_ct (J := (fun σ' => IF MN σ σ' ∧ True)) (L := [(0, av 1 c 0), (1, iv p0)]) (nL := 3) rfl rfl rfl ⟨IF.rf hI, trivial⟩ ?_
  refine T_op zk_20_0 rfl X_ic (pc' := 1) rfl ?_
  refine T_st (L' := [(0, av 1 c 0), (1, iv p0), (2, iv 0)]) zk_20_1 (nL := 3) rfl rfl rfl rfl rfl (pc' := 2) rfl ?_
  refine T_loop1 (fun x1 => ((0 : Int)).toNat) (fun x1 => (0 ≤ x1 ∧ x1 ≤ 0)) (fun x1 => TJ xs (fun σ' => IF MN σ σ' ∧ True) 0 20 2 [(0, av 1 c 0), (1, iv p0), (2, iv x1)] [] _) ?_ 0 (by omega)
  intro x1 hp3 ih2
  refine T_ld zk_20_2 rfl rfl rfl (pc' := 3) rfl ?_
  refine T_ld zk_20_3 rfl rfl rfl (pc' := 4) rfl ?_
  refine G_getX (w := 0) zk_20_4 rfl (vd_1 hc) (fun σ' h => (h.1.2 _ _ _ _ (fun q => q)).trans s1) (pc' := 7) rfl ?_
  refine T_icmp_ge zk_20_7 (by omega) (by omega) (pc' := 10) rfl (fun h4 => ?_) (fun h5 => ?_)
  ·
    exact T_vret zk_20_39 rfl (fun σ' h => ⟨rfl, h.1, trivial⟩)
  · exfalso; omega
/-- W$City.troubles -/
theorem c_21e {xs : Nat × (Nat → Int32)} (c : Nat) (hc : c < 3) (σ : ZS) (hI : Inv σ)  (s1 : σ 1 c 0 6 = 0) (s2 : σ 1 c 0 7 = 0) : CT xs 1 21 [av 1 c 0] σ (fun v σ' => ∃ y, v = some (iv y) ∧ (y = 0) ∧ IF MN σ σ' ∧ (True)) := by
  refine G_ct (J := (fun σ' => IF MN σ σ' ∧ True)) (L := [(0, av 1 c 0)]) (nL := 3) rfl rfl rfl ⟨IF.rf hI, trivial⟩ ?_
  refine T_op zk_21_0 rfl X_ic (pc' := 1) rfl ?_
  refine T_st (L' := [(0, av 1 c 0), (1, iv 0)]) zk_21_1 (nL := 3) rfl rfl rfl rfl rfl (pc' := 2) rfl ?_
  refine T_op zk_21_2 rfl X_ic (pc' := 3) rfl ?_
  refine T_st (L' := [(0, av 1 c 0), (1, iv 0), (2, iv 0)]) zk_21_3 (nL := 3) rfl rfl rfl rfl rfl (pc' := 4) rfl ?_
  refine T_loop2 (fun x1 x2 => ((0 : Int)).toNat) (fun x1 x2 => (0 ≤ x1 ∧ x1 ≤ 0) ∧ (0 ≤ x2 ∧ x2 ≤ 0)) (fun x1 x2 => TJ xs (fun σ' => IF MN σ σ' ∧ True) 0 21 4 [(0, av 1 c 0), (1, iv x1), (2, iv x2)] [] _) ?_ 0 0 (by omega)
  intro x1 x2 hp4 ih3
  refine T_ld zk_21_4 rfl rfl rfl (pc' := 5) rfl ?_
  refine T_ld zk_21_5 rfl rfl rfl (pc' := 6) rfl ?_
  refine G_getX (w := 0) zk_21_6 rfl (vd_1 hc) (fun σ' h => (h.1.2 _ _ _ _ (fun q => q)).trans s1) (pc' := 9) rfl ?_
  refine T_icmp_ge zk_21_9 (by omega) (by omega) (pc' := 12) rfl (fun h5 => ?_) (fun h6 => ?_)
  ·
    refine T_op zk_21_33 rfl X_ic (pc' := 34) rfl ?_
    refine T_st (L' := [(0, av 1 c 0), (1, iv x1), (2, iv 0)]) zk_21_34 (nL := 3) rfl rfl rfl rfl rfl (pc' := 35) rfl ?_
    refine T_ld zk_21_35 rfl rfl rfl (pc' := 36) rfl ?_
    refine T_ld zk_21_36 rfl rfl rfl (pc' := 37) rfl ?_
    refine G_getX (w := 0) zk_21_37 rfl (vd_1 hc) (fun σ' h => (h.1.2 _ _ _ _ (fun q => q)).trans s2) (pc' := 40) rfl ?_
    refine T_icmp_ge zk_21_40 (by omega) (by omega) (pc' := 43) rfl (fun h7 => ?_) (fun h8 => ?_)
    ·
      refine T_ld zk_21_61 rfl rfl rfl (pc' := 62) rfl ?_
      exact T_iret zk_21_62 rfl (fun σ' h => ⟨_, rfl, (by omega), h.1, trivial⟩)
    · exfalso; omega
  · exfalso; omega
/-- W$Mouths.shutCount -/
theorem c_63e {xs : Nat × (Nat → Int32)} (c : Nat) (hc : c < 3) (σ : ZS) (hI : Inv σ)  (s1 : σ 11 c 0 0 = 0) : CT xs 1 63 [av 11 c 0] σ (fun v σ' => ∃ y, v = some (iv y) ∧ (y = 0) ∧ IF MN σ σ' ∧ (True)) := by
  refine G_ct (J := (fun σ' => IF MN σ σ' ∧ True)) (L := [(0, av 11 c 0)]) (nL := 3) rfl rfl rfl ⟨IF.rf hI, trivial⟩ ?_
  refine T_op zk_63_0 rfl X_ic (pc' := 1) rfl ?_
  refine T_st (L' := [(0, av 11 c 0), (1, iv 0)]) zk_63_1 (nL := 3) rfl rfl rfl rfl rfl (pc' := 2) rfl ?_
  refine T_op zk_63_2 rfl X_ic (pc' := 3) rfl ?_
  refine T_st (L' := [(0, av 11 c 0), (1, iv 0), (2, iv 0)]) zk_63_3 (nL := 3) rfl rfl rfl rfl rfl (pc' := 4) rfl ?_
  refine T_loop2 (fun x1 x2 => ((0 : Int)).toNat) (fun x1 x2 => (0 ≤ x1 ∧ x1 ≤ 0) ∧ (0 ≤ x2 ∧ x2 ≤ 0)) (fun x1 x2 => TJ xs (fun σ' => IF MN σ σ' ∧ True) 0 63 4 [(0, av 11 c 0), (1, iv x1), (2, iv x2)] [] _) ?_ 0 0 (by omega)
  intro x1 x2 hp4 ih3
  refine T_ld zk_63_4 rfl rfl rfl (pc' := 5) rfl ?_
  refine T_ld zk_63_5 rfl rfl rfl (pc' := 6) rfl ?_
  refine G_getX (w := 0) zk_63_6 rfl (vd_11 hc) (fun σ' h => (h.1.2 _ _ _ _ (fun q => q)).trans s1) (pc' := 9) rfl ?_
  refine T_icmp_ge zk_63_9 (by omega) (by omega) (pc' := 12) rfl (fun h5 => ?_) (fun h6 => ?_)
  ·
    refine T_ld zk_63_30 rfl rfl rfl (pc' := 31) rfl ?_
    exact T_iret zk_63_31 rfl (fun σ' h => ⟨_, rfl, (by omega), h.1, trivial⟩)
  · exfalso; omega
/-- W$Lagoon.greatestLevel -/
theorem c_33 {xs : Nat × (Nat → Int32)} (c : Nat) (hc : c < 3) (σ : ZS) (hI : Inv σ)   : CT xs 1 33 [av 2 c 0] σ (fun v σ' => ∃ y, v = some (iv y) ∧ (-2147483648 ≤ y ∧ y ≤ 2147483647) ∧ IF MN σ σ' ∧ (True)) := by
  refine G_ct (J := (fun σ' => IF MN σ σ' ∧ True)) (L := [(0, av 2 c 0)]) (nL := 3) rfl rfl rfl ⟨IF.rf hI, trivial⟩ ?_
  refine T_ld zk_33_0 rfl rfl rfl (pc' := 1) rfl ?_
  refine T_getR (t' := 4) (i' := c) (k' := 0) zk_33_1 rfl rfl rfl (vd_2 hc) (pc' := 4) rfl ?_
  refine T_op zk_33_4 rfl X_ic (pc' := 5) rfl ?_
  refine G_iald (lo := -2147483648) (hi := 2147483647) (ln := 25) zk_33_5 rfl rfl (vd_4 hc) (by omega) (by omega) (by omega) (fun σ' h => h.1.1) (fun _ h => h.1) (pc' := 6) rfl (fun y1 hy1 hy1' => ?_)
  refine T_st (L' := [(0, av 2 c 0), (1, iv y1)]) zk_33_6 (nL := 3) rfl rfl rfl rfl rfl (pc' := 7) rfl ?_
  refine T_op zk_33_7 rfl X_ic (pc' := 8) rfl ?_
  refine T_st (L' := [(0, av 2 c 0), (1, iv y1), (2, iv 1)]) zk_33_8 (nL := 3) rfl rfl rfl rfl rfl (pc' := 9) rfl ?_
  refine T_loop2 (fun x2 x3 => ((25 - x3 : Int)).toNat) (fun x2 x3 => (-2147483648 ≤ x2 ∧ x2 ≤ 2147483647) ∧ (0 ≤ x3 ∧ x3 ≤ 25)) (fun x2 x3 => TJ xs (fun σ' => IF MN σ σ' ∧ True) 0 33 9 [(0, av 2 c 0), (1, iv x2), (2, iv x3)] [] _) ?_ y1 1 (by omega)
  intro x2 x3 hp5 ih4
  refine T_ld zk_33_9 rfl rfl rfl (pc' := 10) rfl ?_
  refine T_op zk_33_10 rfl (X_bi (v := 25) (by decide)) (pc' := 12) rfl ?_
  refine T_icmp_ge zk_33_12 (by omega) (by omega) (pc' := 15) rfl (fun h6 => ?_) (fun h7 => ?_)
  ·
    refine T_ld zk_33_32 rfl rfl rfl (pc' := 33) rfl ?_
    exact T_iret zk_33_33 rfl (fun σ' h => ⟨_, rfl, (by omega), h.1, trivial⟩)
  ·
    refine T_ld zk_33_15 rfl rfl rfl (pc' := 16) rfl ?_
    refine T_ld zk_33_16 rfl rfl rfl (pc' := 17) rfl ?_
    refine T_getR (t' := 4) (i' := c) (k' := 0) zk_33_17 rfl rfl rfl (vd_2 hc) (pc' := 20) rfl ?_
    refine T_ld zk_33_20 rfl rfl rfl (pc' := 21) rfl ?_
    refine G_iald (lo := -2147483648) (hi := 2147483647) (ln := 25) zk_33_21 rfl rfl (vd_4 hc) (by omega) (by omega) (by omega) (fun σ' h => h.1.1) (fun _ h => h.1) (pc' := 22) rfl (fun y8 hy8 hy8' => ?_)
    refine T_max zk_33_22 rfl (by omega) (by omega) rfl (pc' := 25) rfl (fun y9 hy9 hy9' ey9 => ?_)
    refine T_st (L' := [(0, av 2 c 0), (1, iv y9), (2, iv x3)]) zk_33_25 (nL := 3) rfl rfl rfl rfl rfl (pc' := 26) rfl ?_
    refine T_iinc (L' := [(0, av 2 c 0), (1, iv y9), (2, iv (x3 + 1))]) zk_33_26 (nL := 3) rfl rfl rfl rfl (pc' := 29) rfl ?_
    refine T_goto zk_33_29 ?_
    exact ih4 y9 (x3 + 1) (by omega) (by omega)
/-- W$Lagoon.sumOfLevels -/
theorem c_34e {xs : Nat × (Nat → Int32)} (c : Nat) (hc : c < 3) (σ : ZS) (hI : Inv σ)  (s1 : (∀ j, 0 ≤ j → j < 25 → σ 4 c 0 j = 0)) : CT xs 1 34 [av 2 c 0] σ (fun v σ' => ∃ y, v = some (iv y) ∧ (y = 0) ∧ IF MN σ σ' ∧ (True)) := by
  refine G_ct (J := (fun σ' => IF MN σ σ' ∧ True)) (L := [(0, av 2 c 0)]) (nL := 3) rfl rfl rfl ⟨IF.rf hI, trivial⟩ ?_
  refine T_op zk_34_0 rfl X_ic (pc' := 1) rfl ?_
  refine T_st (L' := [(0, av 2 c 0), (1, iv 0)]) zk_34_1 (nL := 3) rfl rfl rfl rfl rfl (pc' := 2) rfl ?_
  refine T_op zk_34_2 rfl X_ic (pc' := 3) rfl ?_
  refine T_st (L' := [(0, av 2 c 0), (1, iv 0), (2, iv 0)]) zk_34_3 (nL := 3) rfl rfl rfl rfl rfl (pc' := 4) rfl ?_
  refine T_loop2 (fun x1 x2 => ((25 - x2 : Int)).toNat) (fun x1 x2 => (0 ≤ x1 ∧ x1 ≤ 0) ∧ (0 ≤ x2 ∧ x2 ≤ 25)) (fun x1 x2 => TJ xs (fun σ' => IF MN σ σ' ∧ True) 0 34 4 [(0, av 2 c 0), (1, iv x1), (2, iv x2)] [] _) ?_ 0 0 (by omega)
  intro x1 x2 hp4 ih3
  refine T_ld zk_34_4 rfl rfl rfl (pc' := 5) rfl ?_
  refine T_op zk_34_5 rfl (X_bi (v := 25) (by decide)) (pc' := 7) rfl ?_
  refine T_icmp_ge zk_34_7 (by omega) (by omega) (pc' := 10) rfl (fun h5 => ?_) (fun h6 => ?_)
  ·
    refine T_ld zk_34_25 rfl rfl rfl (pc' := 26) rfl ?_
    exact T_iret zk_34_26 rfl (fun σ' h => ⟨_, rfl, (by omega), h.1, trivial⟩)
  ·
    refine T_ld zk_34_10 rfl rfl rfl (pc' := 11) rfl ?_
    refine T_ld zk_34_11 rfl rfl rfl (pc' := 12) rfl ?_
    refine T_getR (t' := 4) (i' := c) (k' := 0) zk_34_12 rfl rfl rfl (vd_2 hc) (pc' := 15) rfl ?_
    refine T_ld zk_34_15 rfl rfl rfl (pc' := 16) rfl ?_
    refine G_ialdX (w := 0) (ln := 25) zk_34_16 rfl rfl (vd_4 hc) (by omega) (by omega) (by omega) (fun σ' h => (h.1.2 _ _ _ _ (fun q => q)).trans (s1 _ (by omega) (by omega))) (pc' := 17) rfl ?_
    refine T_opc (w := 0) zk_34_17 rfl X_add (by omega) (pc' := 18) rfl ?_
    refine T_st (L' := [(0, av 2 c 0), (1, iv 0), (2, iv x2)]) zk_34_18 (nL := 3) rfl rfl rfl rfl rfl (pc' := 19) rfl ?_
    refine T_iinc (L' := [(0, av 2 c 0), (1, iv 0), (2, iv (x2 + 1))]) zk_34_19 (nL := 3) rfl rfl rfl rfl (pc' := 22) rfl ?_
    refine T_goto zk_34_22 ?_
    exact ih3 0 (x2 + 1) (by omega) (by omega)
end
section
/-! locals that a walk no longer needs may be forgotten -/
def xndB : XL → Bool
  | [] => true
  | (j, _) :: t => t.all (fun q => !(Nat.beq q.1 j)) && xndB t
def xnd (L : XL) : Prop := L.Pairwise (fun a b => ¬ a.1 = b.1)
theorem xnd_of {L : XL} (h : xndB L = true) : xnd L := by
  induction L with
  | nil => exact List.Pairwise.nil
  | cons q t ih =>
    obtain ⟨j, v⟩ := q
    simp only [xndB, Bool.and_eq_true, List.all_eq_true] at h
    refine List.Pairwise.cons (fun b hb => ?_) (ih h.2)
    have h2 := h.1 b hb
    intro he
    dsimp only at he
    rw [← he] at h2
    simp at h2
theorem xgetM {L : XL} {j : Nat} {w : Value} (h : xget L j = some w) : (j, w) ∈ L := by
  induction L with
  | nil => cases h
  | cons q t ih =>
    obtain ⟨a, u⟩ := q
    simp only [xget] at h
    cases hb : (a == j) with
    | true =>
      rw [hb] at h
      cases h
      rw [eq_of_beq hb]
      exact List.mem_cons_self
    | false =>
      rw [hb] at h
      exact List.mem_cons_of_mem _ (ih h)
theorem xget_f1 {L : XL} {j : Nat} {w : Value} {K : Nat × Value → Bool} (h : xget L j = some w) (hk : K (j, w) = true) : xget (L.filter K) j = some w := by
  induction L with
  | nil => cases h
  | cons q t ih =>
    obtain ⟨a, u⟩ := q
    simp only [xget] at h
    cases hb : (a == j) with
    | true =>
      rw [hb] at h
      cases h
      have : a = j := eq_of_beq hb
      subst this
      rw [List.filter_cons_of_pos hk]
      simp only [xget, hb, cond_true]
    | false =>
      rw [hb] at h
      cases hq : K (a, u) with
      | true =>
        rw [List.filter_cons_of_pos hq]
        simp only [xget, hb, cond_false]
        exact ih h
      | false =>
        rw [List.filter_cons_of_neg (by rw [hq]; decide)]
        exact ih h
theorem xget_f2 {L : XL} {j : Nat} {w : Value} {K : Nat × Value → Bool} (hn : xnd L) (h : xget (L.filter K) j = some w) : xget L j = some w ∧ K (j, w) = true := by
  induction L with
  | nil => cases h
  | cons q t ih =>
    obtain ⟨a, u⟩ := q
    obtain ⟨h1, h2⟩ := List.pairwise_cons.mp hn
    simp only [xget]
    cases hq : K (a, u) with
    | true =>
      rw [List.filter_cons_of_pos hq] at h
      simp only [xget] at h
      cases hb : (a == j) with
      | true =>
        rw [hb] at h
        cases h
        have : a = j := eq_of_beq hb
        subst this
        exact ⟨rfl, hq⟩
      | false =>
        rw [hb] at h
        exact ih h2 h
    | false =>
      rw [List.filter_cons_of_neg (by rw [hq]; decide)] at h
      obtain ⟨g1, g2⟩ := ih h2 h
      cases hb : (a == j) with
      | true => exact absurd (eq_of_beq hb) (h1 _ (xgetM g1))
      | false => exact ⟨g1, g2⟩
theorem xget_fk {L : XL} {i j : Nat} (hj : ¬ j = i) : xget (L.filter (fun q => !(q.1 == i))) j = xget L j := by
  induction L with
  | nil => rfl
  | cons q t ih =>
    obtain ⟨a, u⟩ := q
    cases hb : (a == i) with
    | true =>
      rw [List.filter_cons_of_neg (by simp [hb]), ih]
      have : (a == j) = false := by
        rw [beq_eq_false_iff_ne]
        intro he
        exact hj (he.symm.trans (eq_of_beq hb))
      simp only [xget, this, cond_false]
    | false =>
      rw [List.filter_cons_of_pos (by simp [hb])]
      simp only [xget, ih]
theorem xget_ins {L : XL} {i j : Nat} {v : Value} : xget (xins i v L) j = if j = i then some v else xget L j := by
  induction L with
  | nil =>
    simp only [xins, xget]
    by_cases hj : j = i
    · subst hj; simp
    · rw [if_neg hj, beq_eq_false_iff_ne.mpr (fun q => hj q.symm)]; rfl
  | cons q t ih =>
    obtain ⟨a, u⟩ := q
    simp only [xins]
    cases hb : (a == i) with
    | true =>
      have ha : a = i := eq_of_beq hb
      subst ha
      simp only [cond_true, xget]
      by_cases hj : j = a
      · subst hj; simp
      · rw [if_neg hj, beq_eq_false_iff_ne.mpr (fun q => hj q.symm)]
        exact xget_fk hj
    | false =>
      simp only [cond_false, xget]
      cases hc : (a == j) with
      | true =>
        have ha : a = j := eq_of_beq hc
        subst ha
        rw [if_neg (beq_eq_false_iff_ne.mp hb)]
        rfl
      | false => exact ih
theorem xinsM {L : XL} {i : Nat} {v : Value} {b : Nat × Value} (h : b ∈ xins i v L) : b = (i, v) ∨ b ∈ L := by
  induction L with
  | nil => exact Or.inl (List.mem_singleton.mp h)
  | cons q t ih =>
    obtain ⟨a, u⟩ := q
    simp only [xins] at h
    cases hb : (a == i) with
    | true =>
      rw [hb] at h
      rcases List.mem_cons.mp h with h | h
      · exact Or.inl h
      · exact Or.inr (List.mem_cons_of_mem _ (List.mem_filter.mp h).1)
    | false =>
      rw [hb] at h
      rcases List.mem_cons.mp h with h | h
      · exact Or.inr (by rw [h]; exact List.mem_cons_self)
      · exact (ih h).imp id (List.mem_cons_of_mem _)
theorem xnd_ins {L : XL} {i : Nat} {v : Value} (hn : xnd L) : xnd (xins i v L) := by
  induction L with
  | nil => exact List.pairwise_singleton _ _
  | cons q t ih =>
    obtain ⟨a, u⟩ := q
    obtain ⟨h1, h2⟩ := List.pairwise_cons.mp hn
    simp only [xins]
    cases hb : (a == i) with
    | true =>
      refine List.Pairwise.cons (fun b hq => ?_) (h2.filter _)
      have h3 := (List.mem_filter.mp hq).2
      intro he
      dsimp only at he
      rw [← he] at h3
      simp at h3
    | false =>
      refine List.Pairwise.cons (fun b hq => ?_) (ih h2)
      rcases xinsM hq with h | h
      · rw [h]; exact beq_eq_false_iff_ne.mp hb
      · exact h1 b h
def xsb (L L' : XL) : Prop := xnd L ∧ ∀ k v, xget L k = some v → xget L' k = some v
theorem xsb_put {L L' : XL} {i : Nat} {v : Value} (h : xsb L L') : xsb (xput i v L) (xput i v L') := by
  refine ⟨xnd_ins (h.1.filter _), fun k w hk => ?_⟩
  unfold xput at hk ⊢
  rw [xget_ins] at hk ⊢
  split
  · next he => rw [if_pos he] at hk; exact hk
  · next he =>
    rw [if_neg he] at hk
    obtain ⟨g1, g2⟩ := xget_f2 h.1 hk
    exact xget_f1 (h.2 _ _ g1) g2
theorem xsb_app {L E : XL} (h : xndB L = true) : xsb L (L ++ E) := by
  refine ⟨xnd_of h, fun k v hk => ?_⟩
  clear h
  induction L with
  | nil => cases hk
  | cons q t ih =>
    obtain ⟨a, u⟩ := q
    simp only [List.cons_append, xget] at hk ⊢
    cases hb : (a == k) with
    | true => rw [hb] at hk; exact hk
    | false => rw [hb] at hk; exact ih hk
theorem bind_sb {L L' : XL} {k : Nat} {f : Value → Option Value} {v : Value} (h : xsb L L') (hb : (xget L k).bind f = some v) : (xget L' k).bind f = some v := by
  cases hk : xget L k with
  | none => rw [hk] at hb; cases hb
  | some w => rw [hk] at hb; rw [h.2 _ _ hk]; exact hb
theorem xld_sb {i : Instr} {L L' : XL} {v : Value} (h : xsb L L') (hv : xld i L = some v) : xld i L' = some v := by
  unfold xld at hv ⊢
  split at hv
  all_goals first | exact bind_sb h hv | cases hv
theorem xld_non {i : Instr} {L : XL} {v : Value} (hv : xld i L = some v) : (∀ n L st, xst n i L st = none) ∧ (∀ t pc st, xbr i t pc st = none) ∧ (∀ xs b q a1 a2 c p st h, xhp xs b q (i, a1, a2, c, p) st h = none) ∧ (∀ r st, xrt r i st = none) := by
  unfold xld at hv
  split at hv
  all_goals first | cases hv; done | exact ⟨fun _ _ _ => rfl, fun _ _ _ => rfl, fun _ _ _ _ _ _ _ _ _ => rfl, fun _ _ => rfl⟩
theorem xst_non {i : Instr} {n : Nat} {L : XL} {st : List Value} {q : XL × List Value} (hv : xst n i L st = some q) : (∀ t pc st, xbr i t pc st = none) ∧ (∀ xs b q a1 a2 c p st h, xhp xs b q (i, a1, a2, c, p) st h = none) ∧ (∀ r st, xrt r i st = none) := by
  unfold xst at hv
  split at hv
  all_goals first | cases hv; done | exact ⟨fun _ _ _ => rfl, fun _ _ _ _ _ _ _ _ _ => rfl, fun _ _ => rfl⟩
theorem xstI_sb {n k : Nat} {L L' L1 : XL} {st st1 : List Value} (h : xsb L L') (hv : xstI n k L st = some (L1, st1)) : ∃ L2, xstI n k L' st = some (L2, st1) ∧ xsb L1 L2 := by
  unfold xstI at hv ⊢
  split at hv
  · split at hv
    · next hk => cases hv; exact ⟨_, if_pos hk, xsb_put h⟩
    · cases hv
  · cases hv
theorem xstJ_sb {n k : Nat} {L L' L1 : XL} {st st1 : List Value} (h : xsb L L') (hv : xstJ n k L st = some (L1, st1)) : ∃ L2, xstJ n k L' st = some (L2, st1) ∧ xsb L1 L2 := by
  unfold xstJ at hv ⊢
  split at hv
  · split at hv
    · next hk => cases hv; exact ⟨_, if_pos hk, xsb_put h⟩
    · cases hv
  · cases hv
theorem xstR_sb {n k : Nat} {L L' L1 : XL} {st st1 : List Value} (h : xsb L L') (hv : xstR n k L st = some (L1, st1)) : ∃ L2, xstR n k L' st = some (L2, st1) ∧ xsb L1 L2 := by
  unfold xstR at hv ⊢
  split at hv
  · split at hv
    · next hk => cases hv; exact ⟨_, if_pos hk, xsb_put h⟩
    · cases hv
  · cases hv
theorem xst_sb {i : Instr} {n : Nat} {L L' L1 : XL} {st st1 : List Value} (h : xsb L L') (hv : xst n i L st = some (L1, st1)) : ∃ L2, xst n i L' st = some (L2, st1) ∧ xsb L1 L2 := by
  unfold xst at hv ⊢
  split at hv
  case h_7 k c =>
    split at hv
    · next hk =>
      split at hv
      · next x hx =>
        cases hv
        rw [if_pos hk, h.2 _ _ hx]
        exact ⟨_, rfl, xsb_put h⟩
      · cases hv
    · cases hv
  all_goals first | exact xstI_sb h hv | exact xstJ_sb h hv | exact xstR_sb h hv | cases hv
theorem xone_sb {xs : Nat × (Nat → Int32)} {call : XF} {m pc : Nat} {L L' : XL} {st : List Value} {h : XH} (hs : xsb L L') :
    (∀ pc' L1 st' h', xone xs call m pc L st h = some (.inl (pc', L1, st', h')) → ∃ L2, xone xs call m pc L' st h = some (.inl (pc', L2, st', h')) ∧ xsb L1 L2) ∧ (∀ r, xone xs call m pc L st h = some (.inr r) → xone xs call m pc L' st h = some (.inr r)) := by
  unfold xone
  cases hz : zc m pc with
  | none => exact ⟨fun _ _ _ _ q => (by cases q), fun _ q => (by cases q)⟩
  | some e =>
    dsimp only
    by_cases hi : xinv e.1 = true
    · rw [if_pos hi, if_pos hi]
      by_cases h5 : e.2.2.1 < 5
      · rw [if_pos h5, if_pos h5]
        split
        · exact ⟨fun _ _ _ _ q => (by cases q; exact ⟨_, rfl, hs⟩), fun _ q => (by cases q)⟩
        · exact ⟨fun _ _ _ _ q => (by cases q), fun _ q => (by cases q)⟩
      · rw [if_neg h5, if_neg h5]
        split
        · exact ⟨fun _ _ _ _ q => (by cases q; exact ⟨_, rfl, hs⟩), fun _ q => (by cases q)⟩
        · exact ⟨fun _ _ _ _ q => (by cases q), fun _ q => (by cases q)⟩
    · rw [if_neg hi, if_neg hi]
      cases ho : xop e.1 st with
      | some st' => exact ⟨fun _ _ _ _ q => (by cases q; exact ⟨_, rfl, hs⟩), fun _ q => (by cases q)⟩
      | none =>
        dsimp only
        cases hl : xld e.1 L with
        | some v =>
          rw [xld_sb hs hl]
          exact ⟨fun _ _ _ _ q => (by cases q; exact ⟨_, rfl, hs⟩), fun _ q => (by cases q)⟩
        | none =>
          cases hl' : xld e.1 L' with
          | some v =>
            obtain ⟨i, a1, a2, c, p⟩ := e
            obtain ⟨g1, g2, g3, g4⟩ := xld_non hl'
            dsimp only at g1 g2 g3 g4 ⊢
            rw [g1, g2, g3, g4]
            exact ⟨fun _ _ _ _ q => (by cases q), fun _ q => (by cases q)⟩
          | none =>
            dsimp only
            cases ht : xst (zMl m) e.1 L st with
            | some q =>
              obtain ⟨L1, st1⟩ := q
              obtain ⟨L2, g1, g2⟩ := xst_sb hs ht
              rw [g1]
              exact ⟨fun _ _ _ _ q => (by cases q; exact ⟨_, rfl, g2⟩), fun _ q => (by cases q)⟩
            | none =>
              cases ht' : xst (zMl m) e.1 L' st with
              | some q =>
                obtain ⟨i, a1, a2, c, p⟩ := e
                obtain ⟨g2, g3, g4⟩ := xst_non ht'
                dsimp only at g2 g3 g4 ⊢
                rw [g2, g3, g4]
                exact ⟨fun _ _ _ _ q => (by cases q), fun _ q => (by cases q)⟩
              | none =>
                dsimp only
                split
                · exact ⟨fun _ _ _ _ q => (by cases q; exact ⟨_, rfl, hs⟩), fun _ q => (by cases q)⟩
                · split
                  · exact ⟨fun _ _ _ _ q => (by cases q; exact ⟨_, rfl, hs⟩), fun _ q => (by cases q)⟩
                  · split
                    · exact ⟨fun _ _ _ _ q => (by cases q), fun _ q => q⟩
                    · exact ⟨fun _ _ _ _ q => (by cases q), fun _ q => (by cases q)⟩
theorem xgo_sb {xs : Nat × (Nat → Int32)} {call : XF} {m : Nat} {r : XR} : ∀ {n pc : Nat} {L L' : XL} {st : List Value} {h : XH}, xsb L L' → xgo xs call m n pc L st h = some r → xgo xs call m n pc L' st h = some r := by
  intro n
  induction n with
  | zero => intro pc L L' st h _ q; cases q
  | succ n ih =>
    intro pc L L' st h hs q
    simp only [xgo] at q ⊢
    cases ho : xone xs call m pc L st h with
    | none => rw [ho] at q; cases q
    | some s =>
      cases s with
      | inl s =>
        obtain ⟨pc', L1, st', h'⟩ := s
        obtain ⟨L2, g1, g2⟩ := (xone_sb hs).1 _ _ _ _ ho
        rw [ho] at q
        rw [g1]
        exact ih g2 q
      | inr s =>
        rw [ho] at q
        rw [(xone_sb hs).2 _ ho]
        exact q
theorem T_loc {xs : Nat × (Nat → Int32)} {J : ZS → Prop} {d m pc : Nat} {L E : XL} {st : List Value} {Q : Option Value → ZS → Prop} (h : xndB L = true) (kk : TJ xs J d m pc L st Q) : TJ xs J d m pc (L ++ E) st Q := fun σ hJ => by
  obtain ⟨n, v, σ', h1, h2⟩ := kk σ hJ
  exact ⟨n, v, σ', xgo_sb (xsb_app h) h1, h2⟩
end
section
theorem zk_1_0 : zc 1 0 = some (.aload_n 0, 0, 0, 0, 0) := rfl
theorem zk_1_1 : zc 1 1 = some (.iload_n 1, 0, 0, 0, 0) := rfl
theorem zk_1_2 : zc 1 2 = some (.putfield 15, 0, 0, 0, 1) := rfl
theorem zk_1_5 : zc 1 5 = some (.aload_n 0, 0, 0, 0, 0) := rfl
theorem zk_1_6 : zc 1 6 = some (.iload_n 2, 0, 0, 0, 0) := rfl
theorem zk_1_7 : zc 1 7 = some (.putfield 18, 0, 1, 0, 2) := rfl
theorem zk_1_10 : zc 1 10 = some (.aload_n 0, 0, 0, 0, 0) := rfl
theorem zk_1_11 : zc 1 11 = some (.iload_n 3, 0, 0, 0, 0) := rfl
theorem zk_1_12 : zc 1 12 = some (.putfield 21, 0, 2, 0, 3) := rfl
theorem zk_1_15 : zc 1 15 = some (.aload_n 0, 0, 0, 0, 0) := rfl
theorem zk_1_16 : zc 1 16 = some (.iload 4, 0, 0, 0, 0) := rfl
theorem zk_1_18 : zc 1 18 = some (.putfield 24, 0, 3, 0, 4) := rfl
theorem zk_1_21 : zc 1 21 = some (.aload_n 0, 0, 0, 0, 0) := rfl
theorem zk_1_22 : zc 1 22 = some (.iload 5, 0, 0, 0, 0) := rfl
theorem zk_1_24 : zc 1 24 = some (.putfield 27, 0, 4, 0, 5) := rfl
theorem zk_1_27 : zc 1 27 = some (.aload_n 0, 0, 0, 0, 0) := rfl
theorem zk_1_28 : zc 1 28 = some (.iconst (-1), 0, 0, 0, 0) := rfl
theorem zk_1_29 : zc 1 29 = some (.putfield 9, 0, 5, 0, 0) := rfl
theorem zk_1_32 : zc 1 32 = some (.aload_n 0, 0, 0, 0, 0) := rfl
theorem zk_1_33 : zc 1 33 = some (.iconst 0, 0, 0, 0, 0) := rfl
theorem zk_1_34 : zc 1 34 = some (.putfield 30, 0, 6, 0, 6) := rfl
theorem zk_1_37 : zc 1 37 = some (.aload_n 0, 0, 0, 0, 0) := rfl
theorem zk_1_38 : zc 1 38 = some (.iconst 0, 0, 0, 0, 0) := rfl
theorem zk_1_39 : zc 1 39 = some (.putfield 33, 0, 7, 0, 7) := rfl
theorem zk_1_42 : zc 1 42 = some (.aload_n 0, 0, 0, 0, 0) := rfl
theorem zk_1_43 : zc 1 43 = some (.iconst 0, 0, 0, 0, 0) := rfl
theorem zk_1_44 : zc 1 44 = some (.putfield 36, 0, 8, 0, 8) := rfl
theorem zk_1_47 : zc 1 47 = some (.aload_n 0, 0, 0, 0, 0) := rfl
theorem zk_1_48 : zc 1 48 = some (.iconst 0, 0, 0, 0, 0) := rfl
theorem zk_1_49 : zc 1 49 = some (.putfield 39, 0, 9, 0, 9) := rfl
theorem zk_1_52 : zc 1 52 = some (.return_, 0, 0, 0, 0) := rfl
theorem zk_10_0 : zc 10 0 = some (.iload_n 1, 0, 0, 0, 0) := rfl
theorem zk_10_1 : zc 10 1 = some (.ifCond .eq 10, 11, 0, 0, 0) := rfl
theorem zk_10_4 : zc 10 4 = some (.aload_n 0, 0, 0, 0, 0) := rfl
theorem zk_10_5 : zc 10 5 = some (.getfield 50, 2, 9, 0, 17) := rfl
theorem zk_10_8 : zc 10 8 = some (.goto 7, 15, 0, 0, 0) := rfl
theorem zk_10_11 : zc 10 11 = some (.aload_n 0, 0, 0, 0, 0) := rfl
theorem zk_10_12 : zc 10 12 = some (.getfield 46, 2, 8, 0, 16) := rfl
theorem zk_10_15 : zc 10 15 = some (.areturn, 0, 0, 0, 0) := rfl
theorem zk_11_0 : zc 11 0 = some (.aload_n 0, 0, 0, 0, 0) := rfl
theorem zk_11_1 : zc 11 1 = some (.getfield 50, 2, 9, 0, 17) := rfl
theorem zk_11_4 : zc 11 4 = some (.aload_n 0, 0, 0, 0, 0) := rfl
theorem zk_11_5 : zc 11 5 = some (.getfield 75, 2, 13, 0, 22) := rfl
theorem zk_11_8 : zc 11 8 = some (.invokevirtual 78, 73, 0, 2, 17) := rfl
theorem zk_11_11 : zc 11 11 = some (.istore_n 1, 0, 0, 0, 0) := rfl
theorem zk_11_12 : zc 11 12 = some (.iconst 1, 0, 0, 0, 0) := rfl
theorem zk_11_13 : zc 11 13 = some (.istore_n 2, 0, 0, 0, 0) := rfl
theorem zk_11_14 : zc 11 14 = some (.iload_n 2, 0, 0, 0, 0) := rfl
theorem zk_11_15 : zc 11 15 = some (.bipush 8, 0, 0, 0, 0) := rfl
theorem zk_11_17 : zc 11 17 = some (.if_icmp .ge 27, 44, 0, 0, 0) := rfl
theorem zk_11_20 : zc 11 20 = some (.iload_n 1, 0, 0, 0, 0) := rfl
theorem zk_11_21 : zc 11 21 = some (.aload_n 0, 0, 0, 0, 0) := rfl
theorem zk_11_22 : zc 11 22 = some (.getfield 50, 2, 9, 0, 17) := rfl
theorem zk_11_25 : zc 11 25 = some (.aload_n 0, 0, 0, 0, 0) := rfl
theorem zk_11_26 : zc 11 26 = some (.getfield 75, 2, 13, 0, 22) := rfl
theorem zk_11_29 : zc 11 29 = some (.iload_n 2, 0, 0, 0, 0) := rfl
theorem zk_11_30 : zc 11 30 = some (.iadd, 0, 0, 0, 0) := rfl
theorem zk_11_31 : zc 11 31 = some (.invokevirtual 78, 73, 0, 2, 17) := rfl
theorem zk_11_34 : zc 11 34 = some (.invokestatic 82, 0, 7, 0, 18) := rfl
theorem zk_11_37 : zc 11 37 = some (.istore_n 1, 0, 0, 0, 0) := rfl
theorem zk_11_38 : zc 11 38 = some (.iinc 2 1, 0, 0, 0, 0) := rfl
theorem zk_11_41 : zc 11 41 = some (.goto (-27), 14, 0, 0, 0) := rfl
theorem zk_11_44 : zc 11 44 = some (.aload_n 0, 0, 0, 0, 0) := rfl
theorem zk_11_45 : zc 11 45 = some (.getfield 64, 2, 18, 0, 20) := rfl
theorem zk_11_48 : zc 11 48 = some (.iconst 0, 0, 0, 0, 0) := rfl
theorem zk_11_49 : zc 11 49 = some (.iload_n 1, 0, 0, 0, 0) := rfl
theorem zk_11_50 : zc 11 50 = some (.aload_n 0, 0, 0, 0, 0) := rfl
theorem zk_11_51 : zc 11 51 = some (.getfield 88, 2, 10, 0, 23) := rfl
theorem zk_11_54 : zc 11 54 = some (.iadd, 0, 0, 0, 0) := rfl
theorem zk_11_55 : zc 11 55 = some (.iastore, 0, 0, 0, 0) := rfl
theorem zk_11_56 : zc 11 56 = some (.aload_n 0, 0, 0, 0, 0) := rfl
theorem zk_11_57 : zc 11 57 = some (.getfield 64, 2, 18, 0, 20) := rfl
theorem zk_11_60 : zc 11 60 = some (.iconst 1, 0, 0, 0, 0) := rfl
theorem zk_11_61 : zc 11 61 = some (.aload_n 0, 0, 0, 0, 0) := rfl
theorem zk_11_62 : zc 11 62 = some (.getfield 50, 2, 9, 0, 17) := rfl
theorem zk_11_65 : zc 11 65 = some (.aload_n 0, 0, 0, 0, 0) := rfl
theorem zk_11_66 : zc 11 66 = some (.getfield 75, 2, 13, 0, 22) := rfl
theorem zk_11_69 : zc 11 69 = some (.invokevirtual 78, 73, 0, 2, 17) := rfl
theorem zk_11_72 : zc 11 72 = some (.iastore, 0, 0, 0, 0) := rfl
theorem zk_11_73 : zc 11 73 = some (.aload_n 0, 0, 0, 0, 0) := rfl
theorem zk_11_74 : zc 11 74 = some (.getfield 64, 2, 18, 0, 20) := rfl
theorem zk_11_77 : zc 11 77 = some (.iconst 2, 0, 0, 0, 0) := rfl
theorem zk_11_78 : zc 11 78 = some (.aload_n 0, 0, 0, 0, 0) := rfl
theorem zk_11_79 : zc 11 79 = some (.getfield 12, 2, 0, 0, 11) := rfl
theorem zk_11_82 : zc 11 82 = some (.invokevirtual 91, 33, 0, 1, 19) := rfl
theorem zk_11_85 : zc 11 85 = some (.iastore, 0, 0, 0, 0) := rfl
theorem zk_11_86 : zc 11 86 = some (.aload_n 0, 0, 0, 0, 0) := rfl
theorem zk_11_87 : zc 11 87 = some (.getfield 64, 2, 18, 0, 20) := rfl
theorem zk_11_90 : zc 11 90 = some (.iconst 3, 0, 0, 0, 0) := rfl
theorem zk_11_91 : zc 11 91 = some (.aload_n 0, 0, 0, 0, 0) := rfl
theorem zk_11_92 : zc 11 92 = some (.getfield 75, 2, 13, 0, 22) := rfl
theorem zk_11_95 : zc 11 95 = some (.iconst 4, 0, 0, 0, 0) := rfl
theorem zk_11_96 : zc 11 96 = some (.idiv, 0, 0, 0, 0) := rfl
theorem zk_11_97 : zc 11 97 = some (.bipush 24, 0, 0, 0, 0) := rfl
theorem zk_11_99 : zc 11 99 = some (.irem, 0, 0, 0, 0) := rfl
theorem zk_11_100 : zc 11 100 = some (.iastore, 0, 0, 0, 0) := rfl
theorem zk_11_101 : zc 11 101 = some (.aload_n 0, 0, 0, 0, 0) := rfl
theorem zk_11_102 : zc 11 102 = some (.getfield 64, 2, 18, 0, 20) := rfl
theorem zk_11_105 : zc 11 105 = some (.iconst 4, 0, 0, 0, 0) := rfl
theorem zk_11_106 : zc 11 106 = some (.aload_n 0, 0, 0, 0, 0) := rfl
theorem zk_11_107 : zc 11 107 = some (.invokevirtual 95, 18, 0, 1, 20) := rfl
theorem zk_11_110 : zc 11 110 = some (.iastore, 0, 0, 0, 0) := rfl
theorem zk_11_111 : zc 11 111 = some (.aload_n 0, 0, 0, 0, 0) := rfl
theorem zk_11_112 : zc 11 112 = some (.getfield 64, 2, 18, 0, 20) := rfl
theorem zk_11_115 : zc 11 115 = some (.iconst 5, 0, 0, 0, 0) := rfl
theorem zk_11_116 : zc 11 116 = some (.aload_n 0, 0, 0, 0, 0) := rfl
theorem zk_11_117 : zc 11 117 = some (.getfield 75, 2, 13, 0, 22) := rfl
theorem zk_11_120 : zc 11 120 = some (.bipush 96, 0, 0, 0, 0) := rfl
theorem zk_11_122 : zc 11 122 = some (.idiv, 0, 0, 0, 0) := rfl
theorem zk_11_123 : zc 11 123 = some (.iastore, 0, 0, 0, 0) := rfl
theorem zk_11_124 : zc 11 124 = some (.return_, 0, 0, 0, 0) := rfl
theorem zk_12_0 : zc 12 0 = some (.aload_n 0, 0, 0, 0, 0) := rfl
theorem zk_12_1 : zc 12 1 = some (.invokevirtual 98, 11, 0, 1, 21) := rfl
theorem zk_12_4 : zc 12 4 = some (.aload_n 0, 0, 0, 0, 0) := rfl
theorem zk_12_5 : zc 12 5 = some (.invokevirtual 101, 14, 0, 1, 22) := rfl
theorem zk_12_8 : zc 12 8 = some (.aload_n 0, 0, 0, 0, 0) := rfl
theorem zk_12_9 : zc 12 9 = some (.iload_n 1, 0, 0, 0, 0) := rfl
theorem zk_12_10 : zc 12 10 = some (.invokevirtual 104, 10, 0, 2, 23) := rfl
theorem zk_12_13 : zc 12 13 = some (.aload_n 0, 0, 0, 0, 0) := rfl
theorem zk_12_14 : zc 12 14 = some (.getfield 75, 2, 13, 0, 22) := rfl
theorem zk_12_17 : zc 12 17 = some (.invokevirtual 78, 73, 0, 2, 17) := rfl
theorem zk_12_20 : zc 12 20 = some (.istore_n 2, 0, 0, 0, 0) := rfl
theorem zk_12_21 : zc 12 21 = some (.aload_n 0, 0, 0, 0, 0) := rfl
theorem zk_12_22 : zc 12 22 = some (.getfield 21, 2, 1, 0, 12) := rfl
theorem zk_12_25 : zc 12 25 = some (.invokevirtual 108, 63, 0, 1, 24) := rfl
theorem zk_12_28 : zc 12 28 = some (.ifCond .le 23, 51, 0, 0, 0) := rfl
theorem zk_12_51 : zc 12 51 = some (.iconst 0, 0, 0, 0, 0) := rfl
theorem zk_12_52 : zc 12 52 = some (.istore_n 3, 0, 0, 0, 0) := rfl
theorem zk_12_53 : zc 12 53 = some (.iload_n 3, 0, 0, 0, 0) := rfl
theorem zk_12_54 : zc 12 54 = some (.aload_n 0, 0, 0, 0, 0) := rfl
theorem zk_12_55 : zc 12 55 = some (.getfield 21, 2, 1, 0, 12) := rfl
theorem zk_12_58 : zc 12 58 = some (.getfield 114, 7, 0, 0, 25) := rfl
theorem zk_12_61 : zc 12 61 = some (.if_icmp .ge 74, 135, 0, 0, 0) := rfl
theorem zk_12_135 : zc 12 135 = some (.aload_n 0, 0, 0, 0, 0) := rfl
theorem zk_12_136 : zc 12 136 = some (.getfield 12, 2, 0, 0, 11) := rfl
theorem zk_12_139 : zc 12 139 = some (.invokevirtual 129, 35, 0, 1, 25) := rfl
theorem zk_12_142 : zc 12 142 = some (.return_, 0, 0, 0, 0) := rfl
theorem zk_13_0 : zc 13 0 = some (.aload_n 0, 0, 0, 0, 0) := rfl
theorem zk_13_1 : zc 13 1 = some (.invokevirtual 132, 15, 0, 1, 26) := rfl
theorem zk_13_4 : zc 13 4 = some (.iconst 0, 0, 0, 0, 0) := rfl
theorem zk_13_5 : zc 13 5 = some (.istore_n 1, 0, 0, 0, 0) := rfl
theorem zk_13_6 : zc 13 6 = some (.iconst 0, 0, 0, 0, 0) := rfl
theorem zk_13_7 : zc 13 7 = some (.istore_n 2, 0, 0, 0, 0) := rfl
theorem zk_13_8 : zc 13 8 = some (.iload_n 2, 0, 0, 0, 0) := rfl
theorem zk_13_9 : zc 13 9 = some (.aload_n 0, 0, 0, 0, 0) := rfl
theorem zk_13_10 : zc 13 10 = some (.getfield 135, 2, 6, 0, 30) := rfl
theorem zk_13_13 : zc 13 13 = some (.if_icmp .ge 57, 70, 0, 0, 0) := rfl
theorem zk_13_70 : zc 13 70 = some (.iload_n 1, 0, 0, 0, 0) := rfl
theorem zk_13_71 : zc 13 71 = some (.ifCond .eq 23, 94, 0, 0, 0) := rfl
theorem zk_13_94 : zc 13 94 = some (.aload_n 0, 0, 0, 0, 0) := rfl
theorem zk_13_95 : zc 13 95 = some (.dup, 0, 0, 0, 0) := rfl
theorem zk_13_96 : zc 13 96 = some (.getfield 75, 2, 13, 0, 22) := rfl
theorem zk_13_99 : zc 13 99 = some (.iconst 1, 0, 0, 0, 0) := rfl
theorem zk_13_100 : zc 13 100 = some (.iadd, 0, 0, 0, 0) := rfl
theorem zk_13_101 : zc 13 101 = some (.putfield 75, 2, 13, 0, 22) := rfl
theorem zk_13_104 : zc 13 104 = some (.aload_n 0, 0, 0, 0, 0) := rfl
theorem zk_13_105 : zc 13 105 = some (.getfield 75, 2, 13, 0, 22) := rfl
theorem zk_13_108 : zc 13 108 = some (.bipush 96, 0, 0, 0, 0) := rfl
theorem zk_13_110 : zc 13 110 = some (.irem, 0, 0, 0, 0) := rfl
theorem zk_13_111 : zc 13 111 = some (.ifCond .ne 46, 157, 0, 0, 0) := rfl
theorem zk_13_114 : zc 13 114 = some (.aload_n 0, 0, 0, 0, 0) := rfl
theorem zk_13_115 : zc 13 115 = some (.getfield 12, 2, 0, 0, 11) := rfl
theorem zk_13_118 : zc 13 118 = some (.aload_n 0, 0, 0, 0, 0) := rfl
theorem zk_13_119 : zc 13 119 = some (.getfield 152, 2, 12, 0, 34) := rfl
theorem zk_13_122 : zc 13 122 = some (.invokevirtual 155, 38, 0, 2, 28) := rfl
theorem zk_13_125 : zc 13 125 = some (.iconst 0, 0, 0, 0, 0) := rfl
theorem zk_13_126 : zc 13 126 = some (.istore_n 2, 0, 0, 0, 0) := rfl
theorem zk_13_127 : zc 13 127 = some (.iload_n 2, 0, 0, 0, 0) := rfl
theorem zk_13_128 : zc 13 128 = some (.aload_n 0, 0, 0, 0, 0) := rfl
theorem zk_13_129 : zc 13 129 = some (.getfield 135, 2, 6, 0, 30) := rfl
theorem zk_13_132 : zc 13 132 = some (.if_icmp .ge 25, 157, 0, 0, 0) := rfl
theorem zk_13_157 : zc 13 157 = some (.return_, 0, 0, 0, 0) := rfl
theorem zk_14_0 : zc 14 0 = some (.iconst 0, 0, 0, 0, 0) := rfl
theorem zk_14_1 : zc 14 1 = some (.istore_n 1, 0, 0, 0, 0) := rfl
theorem zk_14_2 : zc 14 2 = some (.iload_n 1, 0, 0, 0, 0) := rfl
theorem zk_14_3 : zc 14 3 = some (.aload_n 0, 0, 0, 0, 0) := rfl
theorem zk_14_4 : zc 14 4 = some (.getfield 21, 2, 1, 0, 12) := rfl
theorem zk_14_7 : zc 14 7 = some (.getfield 114, 7, 0, 0, 25) := rfl
theorem zk_14_10 : zc 14 10 = some (.if_icmp .ge 101, 111, 0, 0, 0) := rfl
theorem zk_14_111 : zc 14 111 = some (.return_, 0, 0, 0, 0) := rfl
theorem zk_15_0 : zc 15 0 = some (.iconst 0, 0, 0, 0, 0) := rfl
theorem zk_15_1 : zc 15 1 = some (.istore_n 1, 0, 0, 0, 0) := rfl
theorem zk_15_2 : zc 15 2 = some (.iload_n 1, 0, 0, 0, 0) := rfl
theorem zk_15_3 : zc 15 3 = some (.bipush 40, 0, 0, 0, 0) := rfl
theorem zk_15_5 : zc 15 5 = some (.if_icmp .ge 16, 21, 0, 0, 0) := rfl
theorem zk_15_8 : zc 15 8 = some (.aload_n 0, 0, 0, 0, 0) := rfl
theorem zk_15_9 : zc 15 9 = some (.getfield 68, 2, 19, 0, 21) := rfl
theorem zk_15_12 : zc 15 12 = some (.iload_n 1, 0, 0, 0, 0) := rfl
theorem zk_15_13 : zc 15 13 = some (.iconst 0, 0, 0, 0, 0) := rfl
theorem zk_15_14 : zc 15 14 = some (.bastore, 0, 0, 0, 0) := rfl
theorem zk_15_15 : zc 15 15 = some (.iinc 1 1, 0, 0, 0, 0) := rfl
theorem zk_15_18 : zc 15 18 = some (.goto (-16), 2, 0, 0, 0) := rfl
theorem zk_15_21 : zc 15 21 = some (.bipush 9, 0, 0, 0, 0) := rfl
theorem zk_15_23 : zc 15 23 = some (.istore_n 1, 0, 0, 0, 0) := rfl
theorem zk_15_24 : zc 15 24 = some (.iload_n 1, 0, 0, 0, 0) := rfl
theorem zk_15_25 : zc 15 25 = some (.ifCond .lt 61, 86, 0, 0, 0) := rfl
theorem zk_15_28 : zc 15 28 = some (.iconst 0, 0, 0, 0, 0) := rfl
theorem zk_15_29 : zc 15 29 = some (.istore_n 2, 0, 0, 0, 0) := rfl
theorem zk_15_30 : zc 15 30 = some (.iload_n 2, 0, 0, 0, 0) := rfl
theorem zk_15_31 : zc 15 31 = some (.aload_n 0, 0, 0, 0, 0) := rfl
theorem zk_15_32 : zc 15 32 = some (.getfield 172, 2, 7, 0, 38) := rfl
theorem zk_15_35 : zc 15 35 = some (.if_icmp .ge 45, 80, 0, 0, 0) := rfl
theorem zk_15_80 : zc 15 80 = some (.iinc 1 (-1), 0, 0, 0, 0) := rfl
theorem zk_15_83 : zc 15 83 = some (.goto (-59), 24, 0, 0, 0) := rfl
theorem zk_15_86 : zc 15 86 = some (.return_, 0, 0, 0, 0) := rfl
theorem zk_22_0 : zc 22 0 = some (.aload_n 0, 0, 0, 0, 0) := rfl
theorem zk_22_1 : zc 22 1 = some (.getfield 12, 2, 0, 0, 11) := rfl
theorem zk_22_4 : zc 22 4 = some (.aload_n 1, 0, 0, 0, 0) := rfl
theorem zk_22_5 : zc 22 5 = some (.getfield 12, 2, 0, 0, 11) := rfl
theorem zk_22_8 : zc 22 8 = some (.invokevirtual 227, 39, 0, 2, 38) := rfl
theorem zk_22_11 : zc 22 11 = some (.aload_n 0, 0, 0, 0, 0) := rfl
theorem zk_22_12 : zc 22 12 = some (.getfield 21, 2, 1, 0, 12) := rfl
theorem zk_22_15 : zc 22 15 = some (.aload_n 1, 0, 0, 0, 0) := rfl
theorem zk_22_16 : zc 22 16 = some (.getfield 21, 2, 1, 0, 12) := rfl
theorem zk_22_19 : zc 22 19 = some (.invokevirtual 231, 64, 0, 2, 39) := rfl
theorem zk_22_22 : zc 22 22 = some (.aload_n 0, 0, 0, 0, 0) := rfl
theorem zk_22_23 : zc 22 23 = some (.getfield 46, 2, 8, 0, 16) := rfl
theorem zk_22_26 : zc 22 26 = some (.aload_n 1, 0, 0, 0, 0) := rfl
theorem zk_22_27 : zc 22 27 = some (.getfield 46, 2, 8, 0, 16) := rfl
theorem zk_22_30 : zc 22 30 = some (.invokevirtual 235, 72, 0, 2, 40) := rfl
theorem zk_22_33 : zc 22 33 = some (.aload_n 0, 0, 0, 0, 0) := rfl
theorem zk_22_34 : zc 22 34 = some (.getfield 50, 2, 9, 0, 17) := rfl
theorem zk_22_37 : zc 22 37 = some (.aload_n 1, 0, 0, 0, 0) := rfl
theorem zk_22_38 : zc 22 38 = some (.getfield 50, 2, 9, 0, 17) := rfl
theorem zk_22_41 : zc 22 41 = some (.invokevirtual 235, 72, 0, 2, 40) := rfl
theorem zk_22_44 : zc 22 44 = some (.aload_n 0, 0, 0, 0, 0) := rfl
theorem zk_22_45 : zc 22 45 = some (.aload_n 1, 0, 0, 0, 0) := rfl
theorem zk_22_46 : zc 22 46 = some (.getfield 159, 2, 5, 0, 35) := rfl
theorem zk_22_49 : zc 22 49 = some (.putfield 159, 2, 5, 0, 35) := rfl
theorem zk_22_52 : zc 22 52 = some (.iconst 0, 0, 0, 0, 0) := rfl
theorem zk_22_53 : zc 22 53 = some (.istore_n 2, 0, 0, 0, 0) := rfl
theorem zk_22_54 : zc 22 54 = some (.iload_n 2, 0, 0, 0, 0) := rfl
theorem zk_22_55 : zc 22 55 = some (.aload_n 0, 0, 0, 0, 0) := rfl
theorem zk_22_56 : zc 22 56 = some (.getfield 159, 2, 5, 0, 35) := rfl
theorem zk_22_59 : zc 22 59 = some (.if_icmp .ge 24, 83, 0, 0, 0) := rfl
theorem zk_22_83 : zc 22 83 = some (.aload_n 0, 0, 0, 0, 0) := rfl
theorem zk_22_84 : zc 22 84 = some (.aload_n 1, 0, 0, 0, 0) := rfl
theorem zk_22_85 : zc 22 85 = some (.getfield 135, 2, 6, 0, 30) := rfl
theorem zk_22_88 : zc 22 88 = some (.putfield 135, 2, 6, 0, 30) := rfl
theorem zk_22_91 : zc 22 91 = some (.iconst 0, 0, 0, 0, 0) := rfl
theorem zk_22_92 : zc 22 92 = some (.istore_n 2, 0, 0, 0, 0) := rfl
theorem zk_22_93 : zc 22 93 = some (.iload_n 2, 0, 0, 0, 0) := rfl
theorem zk_22_94 : zc 22 94 = some (.aload_n 0, 0, 0, 0, 0) := rfl
theorem zk_22_95 : zc 22 95 = some (.getfield 135, 2, 6, 0, 30) := rfl
theorem zk_22_98 : zc 22 98 = some (.if_icmp .ge 24, 122, 0, 0, 0) := rfl
theorem zk_22_122 : zc 22 122 = some (.aload_n 0, 0, 0, 0, 0) := rfl
theorem zk_22_123 : zc 22 123 = some (.aload_n 1, 0, 0, 0, 0) := rfl
theorem zk_22_124 : zc 22 124 = some (.getfield 172, 2, 7, 0, 38) := rfl
theorem zk_22_127 : zc 22 127 = some (.putfield 172, 2, 7, 0, 38) := rfl
theorem zk_22_130 : zc 22 130 = some (.iconst 0, 0, 0, 0, 0) := rfl
theorem zk_22_131 : zc 22 131 = some (.istore_n 2, 0, 0, 0, 0) := rfl
theorem zk_22_132 : zc 22 132 = some (.iload_n 2, 0, 0, 0, 0) := rfl
theorem zk_22_133 : zc 22 133 = some (.aload_n 0, 0, 0, 0, 0) := rfl
theorem zk_22_134 : zc 22 134 = some (.getfield 172, 2, 7, 0, 38) := rfl
theorem zk_22_137 : zc 22 137 = some (.if_icmp .ge 24, 161, 0, 0, 0) := rfl
theorem zk_22_161 : zc 22 161 = some (.aload_n 0, 0, 0, 0, 0) := rfl
theorem zk_22_162 : zc 22 162 = some (.aload_n 1, 0, 0, 0, 0) := rfl
theorem zk_22_163 : zc 22 163 = some (.getfield 88, 2, 10, 0, 23) := rfl
theorem zk_22_166 : zc 22 166 = some (.putfield 88, 2, 10, 0, 23) := rfl
theorem zk_22_169 : zc 22 169 = some (.aload_n 0, 0, 0, 0, 0) := rfl
theorem zk_22_170 : zc 22 170 = some (.aload_n 1, 0, 0, 0, 0) := rfl
theorem zk_22_171 : zc 22 171 = some (.getfield 53, 2, 11, 0, 18) := rfl
theorem zk_22_174 : zc 22 174 = some (.putfield 53, 2, 11, 0, 18) := rfl
theorem zk_22_177 : zc 22 177 = some (.aload_n 0, 0, 0, 0, 0) := rfl
theorem zk_22_178 : zc 22 178 = some (.aload_n 1, 0, 0, 0, 0) := rfl
theorem zk_22_179 : zc 22 179 = some (.getfield 152, 2, 12, 0, 34) := rfl
theorem zk_22_182 : zc 22 182 = some (.putfield 152, 2, 12, 0, 34) := rfl
theorem zk_22_185 : zc 22 185 = some (.aload_n 0, 0, 0, 0, 0) := rfl
theorem zk_22_186 : zc 22 186 = some (.aload_n 1, 0, 0, 0, 0) := rfl
theorem zk_22_187 : zc 22 187 = some (.getfield 75, 2, 13, 0, 22) := rfl
theorem zk_22_190 : zc 22 190 = some (.putfield 75, 2, 13, 0, 22) := rfl
theorem zk_22_193 : zc 22 193 = some (.aload_n 0, 0, 0, 0, 0) := rfl
theorem zk_22_194 : zc 22 194 = some (.aload_n 1, 0, 0, 0, 0) := rfl
theorem zk_22_195 : zc 22 195 = some (.getfield 149, 2, 14, 0, 33) := rfl
theorem zk_22_198 : zc 22 198 = some (.putfield 149, 2, 14, 0, 33) := rfl
theorem zk_22_201 : zc 22 201 = some (.aload_n 0, 0, 0, 0, 0) := rfl
theorem zk_22_202 : zc 22 202 = some (.aload_n 1, 0, 0, 0, 0) := rfl
theorem zk_22_203 : zc 22 203 = some (.getfield 111, 2, 15, 0, 24) := rfl
theorem zk_22_206 : zc 22 206 = some (.putfield 111, 2, 15, 0, 24) := rfl
theorem zk_22_209 : zc 22 209 = some (.aload_n 0, 0, 0, 0, 0) := rfl
theorem zk_22_210 : zc 22 210 = some (.aload_n 1, 0, 0, 0, 0) := rfl
theorem zk_22_211 : zc 22 211 = some (.getfield 126, 2, 16, 0, 29) := rfl
theorem zk_22_214 : zc 22 214 = some (.putfield 126, 2, 16, 0, 29) := rfl
theorem zk_22_217 : zc 22 217 = some (.return_, 0, 0, 0, 0) := rfl
theorem zk_24_0 : zc 24 0 = some (.aload_n 0, 0, 0, 0, 0) := rfl
theorem zk_24_1 : zc 24 1 = some (.iload_n 1, 0, 0, 0, 0) := rfl
theorem zk_24_2 : zc 24 2 = some (.putfield 9, 3, 0, 0, 49) := rfl
theorem zk_24_5 : zc 24 5 = some (.aload_n 0, 0, 0, 0, 0) := rfl
theorem zk_24_6 : zc 24 6 = some (.iload_n 2, 0, 0, 0, 0) := rfl
theorem zk_24_7 : zc 24 7 = some (.putfield 15, 3, 1, 0, 50) := rfl
theorem zk_24_10 : zc 24 10 = some (.aload_n 0, 0, 0, 0, 0) := rfl
theorem zk_24_11 : zc 24 11 = some (.iload_n 3, 0, 0, 0, 0) := rfl
theorem zk_24_12 : zc 24 12 = some (.putfield 18, 3, 2, 0, 51) := rfl
theorem zk_24_15 : zc 24 15 = some (.aload_n 0, 0, 0, 0, 0) := rfl
theorem zk_24_16 : zc 24 16 = some (.iload 4, 0, 0, 0, 0) := rfl
theorem zk_24_18 : zc 24 18 = some (.putfield 21, 3, 3, 0, 52) := rfl
theorem zk_24_21 : zc 24 21 = some (.aload_n 0, 0, 0, 0, 0) := rfl
theorem zk_24_22 : zc 24 22 = some (.iload 5, 0, 0, 0, 0) := rfl
theorem zk_24_24 : zc 24 24 = some (.putfield 24, 3, 4, 0, 53) := rfl
theorem zk_24_27 : zc 24 27 = some (.aload_n 0, 0, 0, 0, 0) := rfl
theorem zk_24_28 : zc 24 28 = some (.iconst 0, 0, 0, 0, 0) := rfl
theorem zk_24_29 : zc 24 29 = some (.putfield 27, 3, 5, 0, 54) := rfl
theorem zk_24_32 : zc 24 32 = some (.aload_n 0, 0, 0, 0, 0) := rfl
theorem zk_24_33 : zc 24 33 = some (.iconst 0, 0, 0, 0, 0) := rfl
theorem zk_24_34 : zc 24 34 = some (.putfield 30, 3, 6, 0, 55) := rfl
theorem zk_24_37 : zc 24 37 = some (.aload_n 0, 0, 0, 0, 0) := rfl
theorem zk_24_38 : zc 24 38 = some (.iconst 0, 0, 0, 0, 0) := rfl
theorem zk_24_39 : zc 24 39 = some (.putfield 33, 3, 7, 0, 56) := rfl
theorem zk_24_42 : zc 24 42 = some (.aload_n 0, 0, 0, 0, 0) := rfl
theorem zk_24_43 : zc 24 43 = some (.iconst 0, 0, 0, 0, 0) := rfl
theorem zk_24_44 : zc 24 44 = some (.putfield 36, 3, 8, 0, 57) := rfl
theorem zk_24_47 : zc 24 47 = some (.aload_n 0, 0, 0, 0, 0) := rfl
theorem zk_24_48 : zc 24 48 = some (.iconst 0, 0, 0, 0, 0) := rfl
theorem zk_24_49 : zc 24 49 = some (.putfield 39, 3, 9, 0, 58) := rfl
theorem zk_24_52 : zc 24 52 = some (.return_, 0, 0, 0, 0) := rfl
theorem zk_35_0 : zc 35 0 = some (.aload_n 0, 0, 0, 0, 0) := rfl
theorem zk_35_1 : zc 35 1 = some (.getfield 15, 4, 1, 0, 60) := rfl
theorem zk_35_4 : zc 35 4 = some (.iconst 0, 0, 0, 0, 0) := rfl
theorem zk_35_5 : zc 35 5 = some (.aload_n 0, 0, 0, 0, 0) := rfl
theorem zk_35_6 : zc 35 6 = some (.getfield 34, 4, 7, 0, 66) := rfl
theorem zk_35_9 : zc 35 9 = some (.iconst 0, 0, 0, 0, 0) := rfl
theorem zk_35_10 : zc 35 10 = some (.bipush 25, 0, 0, 0, 0) := rfl
theorem zk_35_12 : zc 35 12 = some (.invokestatic 56, 0, 6, 0, 51) := rfl
theorem zk_35_15 : zc 35 15 = some (.iconst 0, 0, 0, 0, 0) := rfl
theorem zk_35_16 : zc 35 16 = some (.istore_n 1, 0, 0, 0, 0) := rfl
theorem zk_35_17 : zc 35 17 = some (.iload_n 1, 0, 0, 0, 0) := rfl
theorem zk_35_18 : zc 35 18 = some (.bipush 40, 0, 0, 0, 0) := rfl
theorem zk_35_20 : zc 35 20 = some (.if_icmp .ge 95, 115, 0, 0, 0) := rfl
theorem zk_35_23 : zc 35 23 = some (.aload_n 0, 0, 0, 0, 0) := rfl
theorem zk_35_24 : zc 35 24 = some (.getfield 27, 4, 5, 0, 64) := rfl
theorem zk_35_27 : zc 35 27 = some (.iload_n 1, 0, 0, 0, 0) := rfl
theorem zk_35_28 : zc 35 28 = some (.baload, 0, 0, 0, 0) := rfl
theorem zk_35_29 : zc 35 29 = some (.ifCond .ne 80, 109, 0, 0, 0) := rfl
theorem zk_35_32 : zc 35 32 = some (.iload_n 1, 0, 0, 0, 0) := rfl
theorem zk_35_33 : zc 35 33 = some (.invokestatic 62, 31, 1, 1, 52) := rfl
theorem zk_35_36 : zc 35 36 = some (.istore_n 2, 0, 0, 0, 0) := rfl
theorem zk_35_37 : zc 35 37 = some (.iload_n 1, 0, 0, 0, 0) := rfl
theorem zk_35_38 : zc 35 38 = some (.invokestatic 66, 32, 1, 1, 53) := rfl
theorem zk_35_41 : zc 35 41 = some (.istore_n 3, 0, 0, 0, 0) := rfl
theorem zk_35_42 : zc 35 42 = some (.aload_n 0, 0, 0, 0, 0) := rfl
theorem zk_35_43 : zc 35 43 = some (.getfield 34, 4, 7, 0, 66) := rfl
theorem zk_35_46 : zc 35 46 = some (.iload_n 2, 0, 0, 0, 0) := rfl
theorem zk_35_47 : zc 35 47 = some (.iaload, 0, 0, 0, 0) := rfl
theorem zk_35_48 : zc 35 48 = some (.aload_n 0, 0, 0, 0, 0) := rfl
theorem zk_35_49 : zc 35 49 = some (.getfield 34, 4, 7, 0, 66) := rfl
theorem zk_35_52 : zc 35 52 = some (.iload_n 3, 0, 0, 0, 0) := rfl
theorem zk_35_53 : zc 35 53 = some (.iaload, 0, 0, 0, 0) := rfl
theorem zk_35_54 : zc 35 54 = some (.isub, 0, 0, 0, 0) := rfl
theorem zk_35_55 : zc 35 55 = some (.iconst 4, 0, 0, 0, 0) := rfl
theorem zk_35_56 : zc 35 56 = some (.idiv, 0, 0, 0, 0) := rfl
theorem zk_35_57 : zc 35 57 = some (.istore 4, 0, 0, 0, 0) := rfl
theorem zk_35_59 : zc 35 59 = some (.aload_n 0, 0, 0, 0, 0) := rfl
theorem zk_35_60 : zc 35 60 = some (.getfield 15, 4, 1, 0, 60) := rfl
theorem zk_35_63 : zc 35 63 = some (.iload_n 2, 0, 0, 0, 0) := rfl
theorem zk_35_64 : zc 35 64 = some (.dup2, 0, 0, 0, 0) := rfl
theorem zk_35_65 : zc 35 65 = some (.iaload, 0, 0, 0, 0) := rfl
theorem zk_35_66 : zc 35 66 = some (.iload 4, 0, 0, 0, 0) := rfl
theorem zk_35_68 : zc 35 68 = some (.isub, 0, 0, 0, 0) := rfl
theorem zk_35_69 : zc 35 69 = some (.iastore, 0, 0, 0, 0) := rfl
theorem zk_35_70 : zc 35 70 = some (.aload_n 0, 0, 0, 0, 0) := rfl
theorem zk_35_71 : zc 35 71 = some (.getfield 15, 4, 1, 0, 60) := rfl
theorem zk_35_74 : zc 35 74 = some (.iload_n 3, 0, 0, 0, 0) := rfl
theorem zk_35_75 : zc 35 75 = some (.dup2, 0, 0, 0, 0) := rfl
theorem zk_35_76 : zc 35 76 = some (.iaload, 0, 0, 0, 0) := rfl
theorem zk_35_77 : zc 35 77 = some (.iload 4, 0, 0, 0, 0) := rfl
theorem zk_35_79 : zc 35 79 = some (.iadd, 0, 0, 0, 0) := rfl
theorem zk_35_80 : zc 35 80 = some (.iastore, 0, 0, 0, 0) := rfl
theorem zk_35_81 : zc 35 81 = some (.aload_n 0, 0, 0, 0, 0) := rfl
theorem zk_35_82 : zc 35 82 = some (.getfield 21, 4, 3, 0, 62) := rfl
theorem zk_35_85 : zc 35 85 = some (.iload_n 2, 0, 0, 0, 0) := rfl
theorem zk_35_86 : zc 35 86 = some (.dup2, 0, 0, 0, 0) := rfl
theorem zk_35_87 : zc 35 87 = some (.iaload, 0, 0, 0, 0) := rfl
theorem zk_35_88 : zc 35 88 = some (.iload 4, 0, 0, 0, 0) := rfl
theorem zk_35_90 : zc 35 90 = some (.invokestatic 69, 0, 9, 0, 54) := rfl
theorem zk_35_93 : zc 35 93 = some (.iadd, 0, 0, 0, 0) := rfl
theorem zk_35_94 : zc 35 94 = some (.iastore, 0, 0, 0, 0) := rfl
theorem zk_35_95 : zc 35 95 = some (.aload_n 0, 0, 0, 0, 0) := rfl
theorem zk_35_96 : zc 35 96 = some (.getfield 21, 4, 3, 0, 62) := rfl
theorem zk_35_99 : zc 35 99 = some (.iload_n 3, 0, 0, 0, 0) := rfl
theorem zk_35_100 : zc 35 100 = some (.dup2, 0, 0, 0, 0) := rfl
theorem zk_35_101 : zc 35 101 = some (.iaload, 0, 0, 0, 0) := rfl
theorem zk_35_102 : zc 35 102 = some (.iload 4, 0, 0, 0, 0) := rfl
theorem zk_35_104 : zc 35 104 = some (.invokestatic 69, 0, 9, 0, 54) := rfl
theorem zk_35_107 : zc 35 107 = some (.iadd, 0, 0, 0, 0) := rfl
theorem zk_35_108 : zc 35 108 = some (.iastore, 0, 0, 0, 0) := rfl
theorem zk_35_109 : zc 35 109 = some (.iinc 1 1, 0, 0, 0, 0) := rfl
theorem zk_35_112 : zc 35 112 = some (.goto (-95), 17, 0, 0, 0) := rfl
theorem zk_35_115 : zc 35 115 = some (.return_, 0, 0, 0, 0) := rfl
theorem zk_38_0 : zc 38 0 = some (.iconst 0, 0, 0, 0, 0) := rfl
theorem zk_38_1 : zc 38 1 = some (.istore_n 2, 0, 0, 0, 0) := rfl
theorem zk_38_2 : zc 38 2 = some (.iload_n 2, 0, 0, 0, 0) := rfl
theorem zk_38_3 : zc 38 3 = some (.bipush 25, 0, 0, 0, 0) := rfl
theorem zk_38_5 : zc 38 5 = some (.if_icmp .ge 45, 50, 0, 0, 0) := rfl
theorem zk_38_8 : zc 38 8 = some (.aload_n 0, 0, 0, 0, 0) := rfl
theorem zk_38_9 : zc 38 9 = some (.getfield 21, 4, 3, 0, 62) := rfl
theorem zk_38_12 : zc 38 12 = some (.iload_n 2, 0, 0, 0, 0) := rfl
theorem zk_38_13 : zc 38 13 = some (.iaload, 0, 0, 0, 0) := rfl
theorem zk_38_14 : zc 38 14 = some (.iload_n 1, 0, 0, 0, 0) := rfl
theorem zk_38_15 : zc 38 15 = some (.if_icmp .ge 22, 37, 0, 0, 0) := rfl
theorem zk_38_18 : zc 38 18 = some (.aload_n 0, 0, 0, 0, 0) := rfl
theorem zk_38_19 : zc 38 19 = some (.getfield 9, 4, 0, 0, 59) := rfl
theorem zk_38_22 : zc 38 22 = some (.iload_n 2, 0, 0, 0, 0) := rfl
theorem zk_38_23 : zc 38 23 = some (.iaload, 0, 0, 0, 0) := rfl
theorem zk_38_24 : zc 38 24 = some (.ifCond .le 13, 37, 0, 0, 0) := rfl
theorem zk_38_27 : zc 38 27 = some (.aload_n 0, 0, 0, 0, 0) := rfl
theorem zk_38_28 : zc 38 28 = some (.getfield 9, 4, 0, 0, 59) := rfl
theorem zk_38_31 : zc 38 31 = some (.iload_n 2, 0, 0, 0, 0) := rfl
theorem zk_38_32 : zc 38 32 = some (.dup2, 0, 0, 0, 0) := rfl
theorem zk_38_33 : zc 38 33 = some (.iaload, 0, 0, 0, 0) := rfl
theorem zk_38_34 : zc 38 34 = some (.iconst 1, 0, 0, 0, 0) := rfl
theorem zk_38_35 : zc 38 35 = some (.isub, 0, 0, 0, 0) := rfl
theorem zk_38_36 : zc 38 36 = some (.iastore, 0, 0, 0, 0) := rfl
theorem zk_38_37 : zc 38 37 = some (.aload_n 0, 0, 0, 0, 0) := rfl
theorem zk_38_38 : zc 38 38 = some (.getfield 21, 4, 3, 0, 62) := rfl
theorem zk_38_41 : zc 38 41 = some (.iload_n 2, 0, 0, 0, 0) := rfl
theorem zk_38_42 : zc 38 42 = some (.iconst 0, 0, 0, 0, 0) := rfl
theorem zk_38_43 : zc 38 43 = some (.iastore, 0, 0, 0, 0) := rfl
theorem zk_38_44 : zc 38 44 = some (.iinc 2 1, 0, 0, 0, 0) := rfl
theorem zk_38_47 : zc 38 47 = some (.goto (-45), 2, 0, 0, 0) := rfl
theorem zk_38_50 : zc 38 50 = some (.return_, 0, 0, 0, 0) := rfl
theorem zk_39_0 : zc 39 0 = some (.aload_n 1, 0, 0, 0, 0) := rfl
theorem zk_39_1 : zc 39 1 = some (.getfield 9, 4, 0, 0, 59) := rfl
theorem zk_39_4 : zc 39 4 = some (.iconst 0, 0, 0, 0, 0) := rfl
theorem zk_39_5 : zc 39 5 = some (.aload_n 0, 0, 0, 0, 0) := rfl
theorem zk_39_6 : zc 39 6 = some (.getfield 9, 4, 0, 0, 59) := rfl
theorem zk_39_9 : zc 39 9 = some (.iconst 0, 0, 0, 0, 0) := rfl
theorem zk_39_10 : zc 39 10 = some (.bipush 25, 0, 0, 0, 0) := rfl
theorem zk_39_12 : zc 39 12 = some (.invokestatic 56, 0, 6, 0, 51) := rfl
theorem zk_39_15 : zc 39 15 = some (.aload_n 1, 0, 0, 0, 0) := rfl
theorem zk_39_16 : zc 39 16 = some (.getfield 15, 4, 1, 0, 60) := rfl
theorem zk_39_19 : zc 39 19 = some (.iconst 0, 0, 0, 0, 0) := rfl
theorem zk_39_20 : zc 39 20 = some (.aload_n 0, 0, 0, 0, 0) := rfl
theorem zk_39_21 : zc 39 21 = some (.getfield 15, 4, 1, 0, 60) := rfl
theorem zk_39_24 : zc 39 24 = some (.iconst 0, 0, 0, 0, 0) := rfl
theorem zk_39_25 : zc 39 25 = some (.bipush 25, 0, 0, 0, 0) := rfl
theorem zk_39_27 : zc 39 27 = some (.invokestatic 56, 0, 6, 0, 51) := rfl
theorem zk_39_30 : zc 39 30 = some (.aload_n 1, 0, 0, 0, 0) := rfl
theorem zk_39_31 : zc 39 31 = some (.getfield 18, 4, 2, 0, 61) := rfl
theorem zk_39_34 : zc 39 34 = some (.iconst 0, 0, 0, 0, 0) := rfl
theorem zk_39_35 : zc 39 35 = some (.aload_n 0, 0, 0, 0, 0) := rfl
theorem zk_39_36 : zc 39 36 = some (.getfield 18, 4, 2, 0, 61) := rfl
theorem zk_39_39 : zc 39 39 = some (.iconst 0, 0, 0, 0, 0) := rfl
theorem zk_39_40 : zc 39 40 = some (.bipush 25, 0, 0, 0, 0) := rfl
theorem zk_39_42 : zc 39 42 = some (.invokestatic 56, 0, 6, 0, 51) := rfl
theorem zk_39_45 : zc 39 45 = some (.aload_n 1, 0, 0, 0, 0) := rfl
theorem zk_39_46 : zc 39 46 = some (.getfield 21, 4, 3, 0, 62) := rfl
theorem zk_39_49 : zc 39 49 = some (.iconst 0, 0, 0, 0, 0) := rfl
theorem zk_39_50 : zc 39 50 = some (.aload_n 0, 0, 0, 0, 0) := rfl
theorem zk_39_51 : zc 39 51 = some (.getfield 21, 4, 3, 0, 62) := rfl
theorem zk_39_54 : zc 39 54 = some (.iconst 0, 0, 0, 0, 0) := rfl
theorem zk_39_55 : zc 39 55 = some (.bipush 25, 0, 0, 0, 0) := rfl
theorem zk_39_57 : zc 39 57 = some (.invokestatic 56, 0, 6, 0, 51) := rfl
theorem zk_39_60 : zc 39 60 = some (.aload_n 1, 0, 0, 0, 0) := rfl
theorem zk_39_61 : zc 39 61 = some (.getfield 24, 4, 4, 0, 63) := rfl
theorem zk_39_64 : zc 39 64 = some (.iconst 0, 0, 0, 0, 0) := rfl
theorem zk_39_65 : zc 39 65 = some (.aload_n 0, 0, 0, 0, 0) := rfl
theorem zk_39_66 : zc 39 66 = some (.getfield 24, 4, 4, 0, 63) := rfl
theorem zk_39_69 : zc 39 69 = some (.iconst 0, 0, 0, 0, 0) := rfl
theorem zk_39_70 : zc 39 70 = some (.bipush 40, 0, 0, 0, 0) := rfl
theorem zk_39_72 : zc 39 72 = some (.invokestatic 56, 0, 6, 0, 51) := rfl
theorem zk_39_75 : zc 39 75 = some (.iconst 0, 0, 0, 0, 0) := rfl
theorem zk_39_76 : zc 39 76 = some (.istore_n 2, 0, 0, 0, 0) := rfl
theorem zk_39_77 : zc 39 77 = some (.iload_n 2, 0, 0, 0, 0) := rfl
theorem zk_39_78 : zc 39 78 = some (.bipush 40, 0, 0, 0, 0) := rfl
theorem zk_39_80 : zc 39 80 = some (.if_icmp .ge 33, 113, 0, 0, 0) := rfl
theorem zk_39_83 : zc 39 83 = some (.aload_n 0, 0, 0, 0, 0) := rfl
theorem zk_39_84 : zc 39 84 = some (.getfield 27, 4, 5, 0, 64) := rfl
theorem zk_39_87 : zc 39 87 = some (.iload_n 2, 0, 0, 0, 0) := rfl
theorem zk_39_88 : zc 39 88 = some (.aload_n 1, 0, 0, 0, 0) := rfl
theorem zk_39_89 : zc 39 89 = some (.getfield 27, 4, 5, 0, 64) := rfl
theorem zk_39_92 : zc 39 92 = some (.iload_n 2, 0, 0, 0, 0) := rfl
theorem zk_39_93 : zc 39 93 = some (.baload, 0, 0, 0, 0) := rfl
theorem zk_39_94 : zc 39 94 = some (.bastore, 0, 0, 0, 0) := rfl
theorem zk_39_95 : zc 39 95 = some (.aload_n 0, 0, 0, 0, 0) := rfl
theorem zk_39_96 : zc 39 96 = some (.getfield 31, 4, 6, 0, 65) := rfl
theorem zk_39_99 : zc 39 99 = some (.iload_n 2, 0, 0, 0, 0) := rfl
theorem zk_39_100 : zc 39 100 = some (.aload_n 1, 0, 0, 0, 0) := rfl
theorem zk_39_101 : zc 39 101 = some (.getfield 31, 4, 6, 0, 65) := rfl
theorem zk_39_104 : zc 39 104 = some (.iload_n 2, 0, 0, 0, 0) := rfl
theorem zk_39_105 : zc 39 105 = some (.baload, 0, 0, 0, 0) := rfl
theorem zk_39_106 : zc 39 106 = some (.bastore, 0, 0, 0, 0) := rfl
theorem zk_39_107 : zc 39 107 = some (.iinc 2 1, 0, 0, 0, 0) := rfl
theorem zk_39_110 : zc 39 110 = some (.goto (-33), 77, 0, 0, 0) := rfl
theorem zk_39_113 : zc 39 113 = some (.return_, 0, 0, 0, 0) := rfl
theorem zk_64_0 : zc 64 0 = some (.aload_n 0, 0, 0, 0, 0) := rfl
theorem zk_64_1 : zc 64 1 = some (.aload_n 1, 0, 0, 0, 0) := rfl
theorem zk_64_2 : zc 64 2 = some (.getfield 19, 7, 0, 0, 82) := rfl
theorem zk_64_5 : zc 64 5 = some (.putfield 19, 7, 0, 0, 82) := rfl
theorem zk_64_8 : zc 64 8 = some (.iconst 0, 0, 0, 0, 0) := rfl
theorem zk_64_9 : zc 64 9 = some (.istore_n 2, 0, 0, 0, 0) := rfl
theorem zk_64_10 : zc 64 10 = some (.iload_n 2, 0, 0, 0, 0) := rfl
theorem zk_64_11 : zc 64 11 = some (.aload_n 0, 0, 0, 0, 0) := rfl
theorem zk_64_12 : zc 64 12 = some (.getfield 19, 7, 0, 0, 82) := rfl
theorem zk_64_15 : zc 64 15 = some (.if_icmp .ge 33, 48, 0, 0, 0) := rfl
theorem zk_64_48 : zc 64 48 = some (.return_, 0, 0, 0, 0) := rfl
theorem zk_66_0 : zc 66 0 = some (.aload_n 0, 0, 0, 0, 0) := rfl
theorem zk_66_1 : zc 66 1 = some (.iconst 1, 0, 0, 0, 0) := rfl
theorem zk_66_2 : zc 66 2 = some (.putfield 9, 8, 0, 0, 83) := rfl
theorem zk_66_5 : zc 66 5 = some (.aload_n 0, 0, 0, 0, 0) := rfl
theorem zk_66_6 : zc 66 6 = some (.iload_n 1, 0, 0, 0, 0) := rfl
theorem zk_66_7 : zc 66 7 = some (.putfield 19, 8, 1, 0, 85) := rfl
theorem zk_66_10 : zc 66 10 = some (.aload_n 0, 0, 0, 0, 0) := rfl
theorem zk_66_11 : zc 66 11 = some (.iload_n 2, 0, 0, 0, 0) := rfl
theorem zk_66_12 : zc 66 12 = some (.putfield 22, 8, 2, 0, 86) := rfl
theorem zk_66_15 : zc 66 15 = some (.aload_n 0, 0, 0, 0, 0) := rfl
theorem zk_66_16 : zc 66 16 = some (.getfield 15, 8, 4, 0, 84) := rfl
theorem zk_66_19 : zc 66 19 = some (.lconst 0, 0, 0, 0, 0) := rfl
theorem zk_66_20 : zc 66 20 = some (.invokestatic 25, 189, 1, 2, 77) := rfl
theorem zk_66_23 : zc 66 23 = some (.return_, 0, 0, 0, 0) := rfl
theorem zk_72_0 : zc 72 0 = some (.aload_n 0, 0, 0, 0, 0) := rfl
theorem zk_72_1 : zc 72 1 = some (.aload_n 1, 0, 0, 0, 0) := rfl
theorem zk_72_2 : zc 72 2 = some (.getfield 21, 9, 0, 0, 89) := rfl
theorem zk_72_5 : zc 72 5 = some (.putfield 21, 9, 0, 0, 89) := rfl
theorem zk_72_8 : zc 72 8 = some (.aload_n 1, 0, 0, 0, 0) := rfl
theorem zk_72_9 : zc 72 9 = some (.getfield 9, 9, 1, 0, 87) := rfl
theorem zk_72_12 : zc 72 12 = some (.iconst 0, 0, 0, 0, 0) := rfl
theorem zk_72_13 : zc 72 13 = some (.aload_n 0, 0, 0, 0, 0) := rfl
theorem zk_72_14 : zc 72 14 = some (.getfield 9, 9, 1, 0, 87) := rfl
theorem zk_72_17 : zc 72 17 = some (.iconst 0, 0, 0, 0, 0) := rfl
theorem zk_72_18 : zc 72 18 = some (.bipush 96, 0, 0, 0, 0) := rfl
theorem zk_72_20 : zc 72 20 = some (.invokestatic 39, 0, 6, 0, 82) := rfl
theorem zk_72_23 : zc 72 23 = some (.return_, 0, 0, 0, 0) := rfl
theorem zk_119_0 : zc 119 0 = some (.iload_n 1, 0, 0, 0, 0) := rfl
theorem zk_119_1 : zc 119 1 = some (.invokestatic 112, 116, 1, 1, 95) := rfl
theorem zk_119_4 : zc 119 4 = some (.ifCond .ne 5, 9, 0, 0, 0) := rfl
theorem zk_119_7 : zc 119 7 = some (.iconst (-1), 0, 0, 0, 0) := rfl
theorem zk_119_8 : zc 119 8 = some (.ireturn, 0, 0, 0, 0) := rfl
theorem zk_119_9 : zc 119 9 = some (.aload_n 0, 0, 0, 0, 0) := rfl
theorem zk_119_10 : zc 119 10 = some (.getfield 24, 10, 4, 0, 94) := rfl
theorem zk_119_13 : zc 119 13 = some (.iload_n 1, 0, 0, 0, 0) := rfl
theorem zk_119_14 : zc 119 14 = some (.aaload, 0, 0, 0, 0) := rfl
theorem zk_119_15 : zc 119 15 = some (.getfield 146, 8, 0, 0, 110) := rfl
theorem zk_119_18 : zc 119 18 = some (.iconst 2, 0, 0, 0, 0) := rfl
theorem zk_119_19 : zc 119 19 = some (.if_icmp .ne 6, 25, 0, 0, 0) := rfl
theorem zk_119_25 : zc 119 25 = some (.aload_n 0, 0, 0, 0, 0) := rfl
theorem zk_119_26 : zc 119 26 = some (.getfield 24, 10, 4, 0, 94) := rfl
theorem zk_119_29 : zc 119 29 = some (.iload_n 1, 0, 0, 0, 0) := rfl
theorem zk_119_30 : zc 119 30 = some (.aaload, 0, 0, 0, 0) := rfl
theorem zk_119_31 : zc 119 31 = some (.getfield 146, 8, 0, 0, 110) := rfl
theorem zk_119_34 : zc 119 34 = some (.ifCond .ne 8, 42, 0, 0, 0) := rfl
theorem zk_119_37 : zc 119 37 = some (.bipush (-3), 0, 0, 0, 0) := rfl
theorem zk_119_39 : zc 119 39 = some (.goto 4, 43, 0, 0, 0) := rfl
theorem zk_119_43 : zc 119 43 = some (.ireturn, 0, 0, 0, 0) := rfl
theorem zk_120_0 : zc 120 0 = some (.aload_n 0, 0, 0, 0, 0) := rfl
theorem zk_120_1 : zc 120 1 = some (.iload_n 1, 0, 0, 0, 0) := rfl
theorem zk_120_2 : zc 120 2 = some (.invokevirtual 119, 119, 0, 2, 97) := rfl
theorem zk_120_5 : zc 120 5 = some (.istore_n 3, 0, 0, 0, 0) := rfl
theorem zk_120_6 : zc 120 6 = some (.aload_n 0, 0, 0, 0, 0) := rfl
theorem zk_120_7 : zc 120 7 = some (.iload_n 2, 0, 0, 0, 0) := rfl
theorem zk_120_8 : zc 120 8 = some (.invokevirtual 119, 119, 0, 2, 97) := rfl
theorem zk_120_11 : zc 120 11 = some (.istore 4, 0, 0, 0, 0) := rfl
theorem zk_120_13 : zc 120 13 = some (.iload_n 3, 0, 0, 0, 0) := rfl
theorem zk_120_14 : zc 120 14 = some (.iconst (-1), 0, 0, 0, 0) := rfl
theorem zk_120_15 : zc 120 15 = some (.if_icmp .eq 9, 24, 0, 0, 0) := rfl
theorem zk_120_18 : zc 120 18 = some (.iload 4, 0, 0, 0, 0) := rfl
theorem zk_120_20 : zc 120 20 = some (.iconst (-1), 0, 0, 0, 0) := rfl
theorem zk_120_21 : zc 120 21 = some (.if_icmp .ne 5, 26, 0, 0, 0) := rfl
theorem zk_120_24 : zc 120 24 = some (.iconst (-1), 0, 0, 0, 0) := rfl
theorem zk_120_25 : zc 120 25 = some (.ireturn, 0, 0, 0, 0) := rfl
theorem zk_120_26 : zc 120 26 = some (.iload_n 3, 0, 0, 0, 0) := rfl
theorem zk_120_27 : zc 120 27 = some (.bipush (-2), 0, 0, 0, 0) := rfl
theorem zk_120_29 : zc 120 29 = some (.if_icmp .eq 10, 39, 0, 0, 0) := rfl
theorem zk_120_32 : zc 120 32 = some (.iload 4, 0, 0, 0, 0) := rfl
theorem zk_120_34 : zc 120 34 = some (.bipush (-2), 0, 0, 0, 0) := rfl
theorem zk_120_36 : zc 120 36 = some (.if_icmp .ne 6, 42, 0, 0, 0) := rfl
theorem zk_120_39 : zc 120 39 = some (.bipush (-2), 0, 0, 0, 0) := rfl
theorem zk_120_41 : zc 120 41 = some (.ireturn, 0, 0, 0, 0) := rfl
theorem zk_120_42 : zc 120 42 = some (.iload_n 3, 0, 0, 0, 0) := rfl
theorem zk_120_43 : zc 120 43 = some (.bipush (-3), 0, 0, 0, 0) := rfl
theorem zk_120_45 : zc 120 45 = some (.if_icmp .eq 10, 55, 0, 0, 0) := rfl
theorem zk_120_55 : zc 120 55 = some (.bipush (-3), 0, 0, 0, 0) := rfl
theorem zk_120_57 : zc 120 57 = some (.ireturn, 0, 0, 0, 0) := rfl
theorem zk_189_0 : zc 189 0 = some (.iconst 0, 0, 0, 0, 0) := rfl
theorem zk_189_1 : zc 189 1 = some (.istore_n 3, 0, 0, 0, 0) := rfl
theorem zk_189_2 : zc 189 2 = some (.aload_n 0, 0, 0, 0, 0) := rfl
theorem zk_189_3 : zc 189 3 = some (.arraylength, 0, 0, 0, 0) := rfl
theorem zk_189_4 : zc 189 4 = some (.istore 4, 0, 0, 0, 0) := rfl
theorem zk_189_6 : zc 189 6 = some (.iload_n 3, 0, 0, 0, 0) := rfl
theorem zk_189_7 : zc 189 7 = some (.iload 4, 0, 0, 0, 0) := rfl
theorem zk_189_9 : zc 189 9 = some (.if_icmp .ge 13, 22, 0, 0, 0) := rfl
theorem zk_189_12 : zc 189 12 = some (.aload_n 0, 0, 0, 0, 0) := rfl
theorem zk_189_13 : zc 189 13 = some (.iload_n 3, 0, 0, 0, 0) := rfl
theorem zk_189_14 : zc 189 14 = some (.lload_n 1, 0, 0, 0, 0) := rfl
theorem zk_189_15 : zc 189 15 = some (.lastore, 0, 0, 0, 0) := rfl
theorem zk_189_16 : zc 189 16 = some (.iinc 3 1, 0, 0, 0, 0) := rfl
theorem zk_189_19 : zc 189 19 = some (.goto (-13), 6, 0, 0, 0) := rfl
theorem zk_189_22 : zc 189 22 = some (.return_, 0, 0, 0, 0) := rfl
def MI (c a b d e : Nat) (t i k j : Nat) : Prop := i = c ∧ (t = a ∨ t = b ∨ t = d ∨ t = e)
def MP (c : Nat) (t i k j : Nat) : Prop := i = c ∧ (t = 3 ∨ t = 6 ∨ t = 22 ∨ (t = 1 ∧ j = 13))
def MDy (c : Nat) (t i k j : Nat) : Prop := i = c ∧ (t = 3 ∨ t = 4 ∨ t = 6 ∨ t = 10 ∨ t = 21 ∨ t = 22 ∨ (t = 1 ∧ j = 13))
def MYl (c : Nat) (t i k j : Nat) : Prop := i = c ∧ 3 ≤ t ∧ t ≤ 9
def MYt (c e : Nat) (t i k j : Nat) : Prop := i = c ∧ k = e ∧ (t = 17 ∨ t = 18)
/-- W.rowRefusal -/
theorem c_119e {xs : Nat × (Nat → Int32)} (p0 : Int) (h0 : -2147483648 ≤ p0 ∧ p0 ≤ 2147483647) (σ : ZS) (hI : Inv σ)  (s1 : σ 33 0 (Int.toNat p0) 0 = 0) : CT xs 2 119 [av 0 0 0, iv p0] σ (fun v σ' => ∃ y, v = some (iv y) ∧ ((y = -1 ∧ (p0 < 0 ∨ 7 < p0)) ∨ (y = -3 ∧ 0 ≤ p0 ∧ p0 ≤ 7)) ∧ IF MN σ σ' ∧ (True)) := by
  refine G_ct (J := (fun σ' => IF MN σ σ' ∧ True)) (L := [(0, av 0 0 0), (1, iv p0)]) (nL := 2) rfl rfl rfl ⟨IF.rf hI, trivial⟩ ?_
  refine T_ld zk_119_0 rfl rfl rfl (pc' := 1) rfl ?_
  refine T_calli (K := fun y1 σ' => ((y1 = 0 ∧ (p0 < 0 ∨ 7 < p0)) ∨ (y1 = 1 ∧ 0 ≤ p0 ∧ p0 ≤ 7)) ∧ (fun σ' => IF MN σ σ' ∧ True) σ') (r := []) zk_119_1 rfl rfl rfl rfl rfl rfl (Or.inl (Or.inl rfl)) (fun σ' h => (c_116 p0 (by omega) σ' h.1.1 ).le (Nat.le_of_ble_eq_true rfl) (fun v σ2 ⟨y, h1, h2, h3, h4⟩ => ⟨y, h1, h2, h.1.tr h3 MN_sub, trivial⟩)) (pc' := 4) rfl (fun y1 => ?_)
  refine G_ex (fun hy1 => ?_)
  refine T_if_ne zk_119_4 (by omega) (pc' := 7) rfl (fun h2 => ?_) (fun h3 => ?_)
  ·
    refine T_ld zk_119_9 rfl rfl rfl (pc' := 10) rfl ?_
    refine T_getR (t' := 27) (i' := 0) (k' := 0) zk_119_10 rfl rfl rfl vd_0 (pc' := 13) rfl ?_
    refine T_ld zk_119_13 rfl rfl rfl (pc' := 14) rfl ?_
    refine G_aald (t' := 33) (im := 0) (i' := 0) (ln := 8) zk_119_14 rfl rfl rfl vd_27 (by omega) (by omega) (by omega) (pc' := 15) rfl ?_
    refine G_getX (w := 0) zk_119_15 rfl (vd_33 (by omega)) (fun σ' h => (h.1.2 _ _ _ _ (fun q => q)).trans s1) (pc' := 18) rfl ?_
    refine T_op zk_119_18 rfl X_ic (pc' := 19) rfl ?_
    refine T_icmp_ne zk_119_19 (by omega) (by omega) (pc' := 22) rfl (fun h4 => ?_) (fun h5 => ?_)
    ·
      refine T_ld zk_119_25 rfl rfl rfl (pc' := 26) rfl ?_
      refine T_getR (t' := 27) (i' := 0) (k' := 0) zk_119_26 rfl rfl rfl vd_0 (pc' := 29) rfl ?_
      refine T_ld zk_119_29 rfl rfl rfl (pc' := 30) rfl ?_
      refine G_aald (t' := 33) (im := 0) (i' := 0) (ln := 8) zk_119_30 rfl rfl rfl vd_27 (by omega) (by omega) (by omega) (pc' := 31) rfl ?_
      refine G_getX (w := 0) zk_119_31 rfl (vd_33 (by omega)) (fun σ' h => (h.1.2 _ _ _ _ (fun q => q)).trans s1) (pc' := 34) rfl ?_
      refine T_if_ne zk_119_34 (by omega) (pc' := 37) rfl (fun h6 => ?_) (fun h7 => ?_)
      · exfalso; omega
      ·
        refine T_op zk_119_37 rfl (X_bi (v := -3) (by decide)) (pc' := 39) rfl ?_
        refine T_goto zk_119_39 ?_
        exact T_iret zk_119_43 rfl (fun σ' h => ⟨_, rfl, (by omega), h.1, trivial⟩)
    · exfalso; omega
  ·
    refine T_op zk_119_7 rfl X_ic (pc' := 8) rfl ?_
    exact T_iret zk_119_8 rfl (fun σ' h => ⟨_, rfl, (by omega), h.1, trivial⟩)
/-- W.copyRefusal -/
theorem c_120e {xs : Nat × (Nat → Int32)} (p0 : Int) (p1 : Int) (h0 : -2147483648 ≤ p0 ∧ p0 ≤ 2147483647) (h1 : -2147483648 ≤ p1 ∧ p1 ≤ 2147483647) (σ : ZS) (hI : Inv σ)  (s1 : σ 33 0 (Int.toNat p0) 0 = 0) (s2 : σ 33 0 (Int.toNat p1) 0 = 0) : CT xs 3 120 [av 0 0 0, iv p0, iv p1] σ (fun v σ' => ∃ y, v = some (iv y) ∧ ((y = -1 ∧ (p0 < 0 ∨ 7 < p0 ∨ p1 < 0 ∨ 7 < p1)) ∨ (y = -3 ∧ 0 ≤ p0 ∧ p0 ≤ 7 ∧ 0 ≤ p1 ∧ p1 ≤ 7)) ∧ IF MN σ σ' ∧ (True)) := by
  refine G_ct (J := (fun σ' => IF MN σ σ' ∧ True)) (L := [(0, av 0 0 0), (1, iv p0), (2, iv p1)]) (nL := 5) rfl rfl rfl ⟨IF.rf hI, trivial⟩ ?_
  refine T_ld zk_120_0 rfl rfl rfl (pc' := 1) rfl ?_
  refine T_ld zk_120_1 rfl rfl rfl (pc' := 2) rfl ?_
  refine T_calli (K := fun y1 σ' => ((y1 = -1 ∧ (p0 < 0 ∨ 7 < p0)) ∨ (y1 = -3 ∧ 0 ≤ p0 ∧ p0 ≤ 7)) ∧ (fun σ' => IF MN σ σ' ∧ True) σ') (r := []) zk_120_2 rfl rfl rfl rfl rfl rfl (Or.inr ⟨_, _, _, _, rfl, vd_0, rfl⟩) (fun σ' h => (c_119e p0 (by omega) σ' h.1.1 ((h.1.2 _ _ _ _ (fun q => q)).trans s1)).le (Nat.le_of_ble_eq_true rfl) (fun v σ2 ⟨y, h1, h2, h3, h4⟩ => ⟨y, h1, h2, h.1.tr h3 MN_sub, trivial⟩)) (pc' := 5) rfl (fun y1 => ?_)
  refine G_ex (fun hy1 => ?_)
  refine T_st (L' := [(0, av 0 0 0), (1, iv p0), (2, iv p1), (3, iv y1)]) zk_120_5 (nL := 5) rfl rfl rfl rfl rfl (pc' := 6) rfl ?_
  refine T_ld zk_120_6 rfl rfl rfl (pc' := 7) rfl ?_
  refine T_ld zk_120_7 rfl rfl rfl (pc' := 8) rfl ?_
  refine T_calli (K := fun y2 σ' => ((y2 = -1 ∧ (p1 < 0 ∨ 7 < p1)) ∨ (y2 = -3 ∧ 0 ≤ p1 ∧ p1 ≤ 7)) ∧ (fun σ' => IF MN σ σ' ∧ True) σ') (r := []) zk_120_8 rfl rfl rfl rfl rfl rfl (Or.inr ⟨_, _, _, _, rfl, vd_0, rfl⟩) (fun σ' h => (c_119e p1 (by omega) σ' h.1.1 ((h.1.2 _ _ _ _ (fun q => q)).trans s2)).le (Nat.le_of_ble_eq_true rfl) (fun v σ2 ⟨y, h1, h2, h3, h4⟩ => ⟨y, h1, h2, h.1.tr h3 MN_sub, trivial⟩)) (pc' := 11) rfl (fun y2 => ?_)
  refine G_ex (fun hy2 => ?_)
  refine T_st (L' := [(0, av 0 0 0), (1, iv p0), (2, iv p1), (3, iv y1), (4, iv y2)]) zk_120_11 (nL := 5) rfl rfl rfl rfl rfl (pc' := 13) rfl ?_
  refine T_ld zk_120_13 rfl rfl rfl (pc' := 14) rfl ?_
  refine T_op zk_120_14 rfl X_ic (pc' := 15) rfl ?_
  refine T_icmp_eq zk_120_15 (by omega) (by omega) (pc' := 18) rfl (fun h3 => ?_) (fun h4 => ?_)
  ·
    refine T_op zk_120_24 rfl X_ic (pc' := 25) rfl ?_
    exact T_iret zk_120_25 rfl (fun σ' h => ⟨_, rfl, (by omega), h.1, trivial⟩)
  ·
    refine T_ld zk_120_18 rfl rfl rfl (pc' := 20) rfl ?_
    refine T_op zk_120_20 rfl X_ic (pc' := 21) rfl ?_
    refine T_icmp_ne zk_120_21 (by omega) (by omega) (pc' := 24) rfl (fun h5 => ?_) (fun h6 => ?_)
    ·
      refine T_ld zk_120_26 rfl rfl rfl (pc' := 27) rfl ?_
      refine T_op zk_120_27 rfl (X_bi (v := -2) (by decide)) (pc' := 29) rfl ?_
      refine T_icmp_eq zk_120_29 (by omega) (by omega) (pc' := 32) rfl (fun h7 => ?_) (fun h8 => ?_)
      ·
        refine T_op zk_120_39 rfl (X_bi (v := -2) (by decide)) (pc' := 41) rfl ?_
        exact T_iret zk_120_41 rfl (fun σ' h => ⟨_, rfl, (by omega), h.1, trivial⟩)
      ·
        refine T_ld zk_120_32 rfl rfl rfl (pc' := 34) rfl ?_
        refine T_op zk_120_34 rfl (X_bi (v := -2) (by decide)) (pc' := 36) rfl ?_
        refine T_icmp_ne zk_120_36 (by omega) (by omega) (pc' := 39) rfl (fun h9 => ?_) (fun h10 => ?_)
        ·
          refine T_ld zk_120_42 rfl rfl rfl (pc' := 43) rfl ?_
          refine T_op zk_120_43 rfl (X_bi (v := -3) (by decide)) (pc' := 45) rfl ?_
          refine T_icmp_eq zk_120_45 (by omega) (by omega) (pc' := 48) rfl (fun h11 => ?_) (fun h12 => ?_)
          ·
            refine T_op zk_120_55 rfl (X_bi (v := -3) (by decide)) (pc' := 57) rfl ?_
            exact T_iret zk_120_57 rfl (fun σ' h => ⟨_, rfl, (by omega), h.1, trivial⟩)
          · exfalso; omega
        ·
          refine T_op zk_120_39 rfl (X_bi (v := -2) (by decide)) (pc' := 41) rfl ?_
          exact T_iret zk_120_41 rfl (fun σ' h => ⟨_, rfl, (by omega), h.1, trivial⟩)
    ·
      refine T_op zk_120_24 rfl X_ic (pc' := 25) rfl ?_
      exact T_iret zk_120_25 rfl (fun σ' h => ⟨_, rfl, (by omega), h.1, trivial⟩)
/-- java/util/Arrays.fill -/
theorem c_189z {xs : Nat × (Nat → Int32)} (k : Nat) (hk : k < 8) (σ : ZS) (hI : Inv σ)   : CT xs 1 189 [av 34 0 k, jv 0] σ (fun v σ' => v = none ∧ IF (MT 33 34 34 34) σ σ' ∧ (True)) := by
  refine G_ct (J := (fun σ' => IF (MT 33 34 34 34) σ σ' ∧ True)) (L := [(0, av 34 0 k), (1, jv 0)]) (nL := 5) rfl rfl rfl ⟨IF.rf hI, trivial⟩ ?_
  refine T_op zk_189_0 rfl X_ic (pc' := 1) rfl ?_
  refine T_st (L' := [(0, av 34 0 k), (1, jv 0), (3, iv 0)]) zk_189_1 (nL := 5) rfl rfl rfl rfl rfl (pc' := 2) rfl ?_
  refine T_ld zk_189_2 rfl rfl rfl (pc' := 3) rfl ?_
  refine T_alen (n := 96) zk_189_3 rfl rfl (vd_34 (by omega)) (pc' := 4) rfl ?_
  refine T_st (L' := [(0, av 34 0 k), (1, jv 0), (3, iv 0), (4, iv 96)]) zk_189_4 (nL := 5) rfl rfl rfl rfl rfl (pc' := 6) rfl ?_
  refine T_loop1 (fun x1 => ((96 - x1 : Int)).toNat) (fun x1 => (0 ≤ x1 ∧ x1 ≤ 96)) (fun x1 => TJ xs (fun σ' => IF (MT 33 34 34 34) σ σ' ∧ True) 0 189 6 [(0, av 34 0 k), (1, jv 0), (3, iv x1), (4, iv 96)] [] _) ?_ 0 (by omega)
  intro x1 hp3 ih2
  refine T_ld zk_189_6 rfl rfl rfl (pc' := 7) rfl ?_
  refine T_ld zk_189_7 rfl rfl rfl (pc' := 9) rfl ?_
  refine T_icmp_ge zk_189_9 (by omega) (by omega) (pc' := 12) rfl (fun h4 => ?_) (fun h5 => ?_)
  ·
    exact T_vret zk_189_22 rfl (fun σ' h => ⟨rfl, h.1, trivial⟩)
  ·
    refine T_ld zk_189_12 rfl rfl rfl (pc' := 13) rfl ?_
    refine T_ld zk_189_13 rfl rfl rfl (pc' := 14) rfl ?_
    refine T_ld zk_189_14 rfl rfl rfl (pc' := 15) rfl ?_
    refine G_last (J' := (fun σ' => IF (MT 33 34 34 34) σ σ' ∧ True)) (ln := 96) zk_189_15 rfl rfl (vd_34 (by omega)) (by omega) (by omega) (by omega) (fun σ' h => ⟨h.1.up ⟨by omega, trivial⟩ (by unfold MT; omega), trivial⟩) (pc' := 16) rfl ?_
    refine T_iinc (L' := [(0, av 34 0 k), (1, jv 0), (3, iv (x1 + 1)), (4, iv 96)]) zk_189_16 (nL := 5) rfl rfl rfl rfl (pc' := 19) rfl ?_
    refine T_goto zk_189_19 ?_
    exact ih2 (x1 + 1) (by omega) (by omega)
/-- W$Shelf.putRow -/
theorem c_66 {xs : Nat × (Nat → Int32)} (k : Nat) (p0 : Int) (p1 : Int) (hk : k < 8) (h0 : -2147483648 ≤ p0 ∧ p0 ≤ 2147483647) (h1 : 0 ≤ p1 ∧ p1 ≤ 96) (σ : ZS) (hI : Inv σ)   : CT xs 2 66 [av 33 0 k, iv p0, iv p1] σ (fun v σ' => v = none ∧ IF (MT 33 34 34 34) σ σ' ∧ (True)) := by
  refine G_ct (J := (fun σ' => IF (MT 33 34 34 34) σ σ' ∧ True)) (L := [(0, av 33 0 k), (1, iv p0), (2, iv p1)]) (nL := 3) rfl rfl rfl ⟨IF.rf hI, trivial⟩ ?_
  refine T_ld zk_66_0 rfl rfl rfl (pc' := 1) rfl ?_
  refine T_op zk_66_1 rfl X_ic (pc' := 2) rfl ?_
  refine T_putf (J' := (fun σ' => IF (MT 33 34 34 34) σ σ' ∧ True)) zk_66_2 rfl rfl (vd_33 (by omega)) (fun σ' h => ⟨h.1.up (by simp only [rgP] <;> omega) (by unfold MT; omega), trivial⟩) (pc' := 5) rfl ?_
  refine T_ld zk_66_5 rfl rfl rfl (pc' := 6) rfl ?_
  refine T_ld zk_66_6 rfl rfl rfl (pc' := 7) rfl ?_
  refine T_putf (J' := (fun σ' => IF (MT 33 34 34 34) σ σ' ∧ True)) zk_66_7 rfl rfl (vd_33 (by omega)) (fun σ' h => ⟨h.1.up (by simp only [rgP] <;> omega) (by unfold MT; omega), trivial⟩) (pc' := 10) rfl ?_
  refine T_ld zk_66_10 rfl rfl rfl (pc' := 11) rfl ?_
  refine T_ld zk_66_11 rfl rfl rfl (pc' := 12) rfl ?_
  refine T_putf (J' := (fun σ' => IF (MT 33 34 34 34) σ σ' ∧ True)) zk_66_12 rfl rfl (vd_33 (by omega)) (fun σ' h => ⟨h.1.up (by simp only [rgP] <;> omega) (by unfold MT; omega), trivial⟩) (pc' := 15) rfl ?_
  refine T_ld zk_66_15 rfl rfl rfl (pc' := 16) rfl ?_
  refine T_getR (t' := 34) (i' := 0) (k' := k) zk_66_16 rfl rfl rfl (vd_33 (by omega)) (pc' := 19) rfl ?_
  refine T_op zk_66_19 rfl (X_lc (v := 0) (by decide)) (pc' := 20) rfl ?_
  refine T_callv (J' := (fun σ' => IF (MT 33 34 34 34) σ σ' ∧ True)) (r := []) zk_66_20 rfl rfl rfl rfl rfl rfl (Or.inl (Or.inl rfl)) (fun σ' h => (c_189z k (by omega) σ' h.1.1 ).le (Nat.le_of_ble_eq_true rfl) (fun v σ2 ⟨h1, h3, h4⟩ => ⟨h1, h.1.tr h3 (fun _ _ _ _ h => h), trivial⟩)) (pc' := 23) rfl ?_
  exact T_vret zk_66_23 rfl (fun σ' h => ⟨rfl, h.1, trivial⟩)
/-- W$City.tide -/
theorem c_10 {xs : Nat × (Nat → Int32)} (c : Nat) (p0 : Int) (hc : c < 3) (h0 : 0 ≤ p0 ∧ p0 ≤ 1) (σ : ZS) (hI : Inv σ)   : CT xs 1 10 [av 1 c 0, iv p0] σ (fun v σ' => v = some (av 17 c (Int.toNat p0)) ∧ IF MN σ σ' ∧ (True)) := by
  refine G_ct (J := (fun σ' => IF MN σ σ' ∧ True)) (L := [(0, av 1 c 0), (1, iv p0)]) (nL := 2) rfl rfl rfl ⟨IF.rf hI, trivial⟩ ?_
  refine T_ld zk_10_0 rfl rfl rfl (pc' := 1) rfl ?_
  refine T_if_eq zk_10_1 (by omega) (pc' := 4) rfl (fun h1 => ?_) (fun h2 => ?_)
  ·
    refine T_ld zk_10_11 rfl rfl rfl (pc' := 12) rfl ?_
    refine T_getR (t' := 17) (i' := c) (k' := 0) zk_10_12 rfl rfl rfl (vd_1 hc) (pc' := 15) rfl ?_
    exact T_aret zk_10_15 rfl (fun σ' h => ⟨(by rw [show (Int.toNat p0 : Nat) = 0 from by omega]), h.1, trivial⟩)
  ·
    refine T_ld zk_10_4 rfl rfl rfl (pc' := 5) rfl ?_
    refine T_getR (t' := 17) (i' := c) (k' := 1) zk_10_5 rfl rfl rfl (vd_1 hc) (pc' := 8) rfl ?_
    refine T_goto zk_10_8 ?_
    exact T_aret zk_10_15 rfl (fun σ' h => ⟨(by rw [show (Int.toNat p0 : Nat) = 1 from by omega]), h.1, trivial⟩)
/-- W$City.lookAround -/
theorem c_11e {xs : Nat × (Nat → Int32)} (c : Nat) (hc : c < 3) (σ : ZS) (hI : Inv σ)  (s1 : σ 17 c 1 0 = 0) (s2 : σ 1 c 0 7 = 0) : CT xs 2 11 [av 1 c 0] σ (fun v σ' => v = none ∧ IF (MI c 21 21 21 21) σ σ' ∧ (True)) := by
  refine G_ct (J := (fun σ' => IF (MI c 21 21 21 21) σ σ' ∧ True)) (L := [(0, av 1 c 0)]) (nL := 3) rfl rfl rfl ⟨IF.rf hI, trivial⟩ ?_
  refine T_ld zk_11_0 rfl rfl rfl (pc' := 1) rfl ?_
  refine T_getR (t' := 17) (i' := c) (k' := 1) zk_11_1 rfl rfl rfl (vd_1 hc) (pc' := 4) rfl ?_
  refine T_ld zk_11_4 rfl rfl rfl (pc' := 5) rfl ?_
  refine G_getf (lo := -2147483648) (hi := 2147483647) zk_11_5 rfl (vd_1 hc) (fun σ' h => h.1.1) (fun _ h => h.1) (pc' := 8) rfl (fun y1 hy1 hy1' => ?_)
  refine T_calli (K := fun y2 σ' => (y2 = 0) ∧ (fun σ' => IF (MI c 21 21 21 21) σ σ' ∧ True) σ') (r := []) zk_11_8 rfl rfl rfl rfl rfl rfl (Or.inr ⟨_, _, _, _, rfl, (vd_17 hc (by omega)), rfl⟩) (fun σ' h => (c_73e c 1 y1 hc (by omega) (by omega) σ' h.1.1 ((h.1.2 _ _ _ _ (by unfold MI; omega)).trans s1)).le (Nat.le_of_ble_eq_true rfl) (fun v σ2 ⟨y, h1, h2, h3, h4⟩ => ⟨y, h1, h2, h.1.tr h3 MN_sub, trivial⟩)) (pc' := 11) rfl (fun y2 => ?_)
  refine G_ex (fun hy2 => ?_)
  obtain rfl : y2 = 0 := by omega
  refine T_st (L' := [(0, av 1 c 0), (1, iv 0)]) zk_11_11 (nL := 3) rfl rfl rfl rfl rfl (pc' := 12) rfl ?_
  refine T_op zk_11_12 rfl X_ic (pc' := 13) rfl ?_
  refine T_st (L' := [(0, av 1 c 0), (1, iv 0), (2, iv 1)]) zk_11_13 (nL := 3) rfl rfl rfl rfl rfl (pc' := 14) rfl ?_
  refine T_loop2 (fun x3 x4 => ((8 - x4 : Int)).toNat) (fun x3 x4 => (0 ≤ x3 ∧ x3 ≤ 0) ∧ (1 ≤ x4 ∧ x4 ≤ 8)) (fun x3 x4 => TJ xs (fun σ' => IF (MI c 21 21 21 21) σ σ' ∧ True) 1 11 14 [(0, av 1 c 0), (1, iv x3), (2, iv x4)] [] _) ?_ 0 1 (by omega)
  intro x3 x4 hp6 ih5
  refine T_ld zk_11_14 rfl rfl rfl (pc' := 15) rfl ?_
  refine T_op zk_11_15 rfl (X_bi (v := 8) (by decide)) (pc' := 17) rfl ?_
  refine T_icmp_ge zk_11_17 (by omega) (by omega) (pc' := 20) rfl (fun h7 => ?_) (fun h8 => ?_)
  ·
    refine T_ld zk_11_44 rfl rfl rfl (pc' := 45) rfl ?_
    refine T_getR (t' := 21) (i' := c) (k' := 0) zk_11_45 rfl rfl rfl (vd_1 hc) (pc' := 48) rfl ?_
    refine T_op zk_11_48 rfl X_ic (pc' := 49) rfl ?_
    refine T_ld zk_11_49 rfl rfl rfl (pc' := 50) rfl ?_
    refine T_ld zk_11_50 rfl rfl rfl (pc' := 51) rfl ?_
    refine G_getf (lo := 0) (hi := 99) zk_11_51 rfl (vd_1 hc) (fun σ' h => h.1.1) (fun _ h => h.2.2.2.2.1 (by omega) (by omega)) (pc' := 54) rfl (fun y9 hy9 hy9' => ?_)
    refine T_op zk_11_54 rfl X_add (pc' := 55) rfl ?_
    refine G_iast (J' := (fun σ' => IF (MI c 21 21 21 21) σ σ' ∧ True)) (ln := 6) zk_11_55 rfl rfl (vd_21 hc) (by omega) (by omega) (by omega) (fun σ' h => ⟨h.1.up ⟨by omega, trivial⟩ (by unfold MI; omega), trivial⟩) (pc' := 56) rfl ?_
    refine T_ld zk_11_56 rfl rfl rfl (pc' := 57) rfl ?_
    refine T_getR (t' := 21) (i' := c) (k' := 0) zk_11_57 rfl rfl rfl (vd_1 hc) (pc' := 60) rfl ?_
    refine T_op zk_11_60 rfl X_ic (pc' := 61) rfl ?_
    refine T_ld zk_11_61 rfl rfl rfl (pc' := 62) rfl ?_
    refine T_getR (t' := 17) (i' := c) (k' := 1) zk_11_62 rfl rfl rfl (vd_1 hc) (pc' := 65) rfl ?_
    refine T_ld zk_11_65 rfl rfl rfl (pc' := 66) rfl ?_
    refine G_getf (lo := -2147483648) (hi := 2147483647) zk_11_66 rfl (vd_1 hc) (fun σ' h => h.1.1) (fun _ h => h.1) (pc' := 69) rfl (fun y10 hy10 hy10' => ?_)
    refine T_calli (K := fun y11 σ' => (y11 = 0) ∧ (fun σ' => IF (MI c 21 21 21 21) σ σ' ∧ True) σ') (r := [iv 1, av 21 c 0]) zk_11_69 rfl rfl rfl rfl rfl rfl (Or.inr ⟨_, _, _, _, rfl, (vd_17 hc (by omega)), rfl⟩) (fun σ' h => (c_73e c 1 y10 hc (by omega) (by omega) σ' h.1.1 ((h.1.2 _ _ _ _ (by unfold MI; omega)).trans s1)).le (Nat.le_of_ble_eq_true rfl) (fun v σ2 ⟨y, h1, h2, h3, h4⟩ => ⟨y, h1, h2, h.1.tr h3 MN_sub, trivial⟩)) (pc' := 72) rfl (fun y11 => ?_)
    refine G_ex (fun hy11 => ?_)
    obtain rfl : y11 = 0 := by omega
    refine G_iast (J' := (fun σ' => IF (MI c 21 21 21 21) σ σ' ∧ True)) (ln := 6) zk_11_72 rfl rfl (vd_21 hc) (by omega) (by omega) (by omega) (fun σ' h => ⟨h.1.up ⟨by omega, trivial⟩ (by unfold MI; omega), trivial⟩) (pc' := 73) rfl ?_
    refine T_ld zk_11_73 rfl rfl rfl (pc' := 74) rfl ?_
    refine T_getR (t' := 21) (i' := c) (k' := 0) zk_11_74 rfl rfl rfl (vd_1 hc) (pc' := 77) rfl ?_
    refine T_op zk_11_77 rfl X_ic (pc' := 78) rfl ?_
    refine T_ld zk_11_78 rfl rfl rfl (pc' := 79) rfl ?_
    refine T_getR (t' := 2) (i' := c) (k' := 0) zk_11_79 rfl rfl rfl (vd_1 hc) (pc' := 82) rfl ?_
    refine T_calli (K := fun y12 σ' => (-2147483648 ≤ y12 ∧ y12 ≤ 2147483647) ∧ (fun σ' => IF (MI c 21 21 21 21) σ σ' ∧ True) σ') (r := [iv 2, av 21 c 0]) zk_11_82 rfl rfl rfl rfl rfl rfl (Or.inr ⟨_, _, _, _, rfl, (vd_2 hc), rfl⟩) (fun σ' h => (c_33 c hc σ' h.1.1 ).le (Nat.le_of_ble_eq_true rfl) (fun v σ2 ⟨y, h1, h2, h3, h4⟩ => ⟨y, h1, h2, h.1.tr h3 MN_sub, trivial⟩)) (pc' := 85) rfl (fun y12 => ?_)
    refine G_ex (fun hy12 => ?_)
    refine G_iast (J' := (fun σ' => IF (MI c 21 21 21 21) σ σ' ∧ True)) (ln := 6) zk_11_85 rfl rfl (vd_21 hc) (by omega) (by omega) (by omega) (fun σ' h => ⟨h.1.up ⟨by omega, trivial⟩ (by unfold MI; omega), trivial⟩) (pc' := 86) rfl ?_
    refine T_ld zk_11_86 rfl rfl rfl (pc' := 87) rfl ?_
    refine T_getR (t' := 21) (i' := c) (k' := 0) zk_11_87 rfl rfl rfl (vd_1 hc) (pc' := 90) rfl ?_
    refine T_op zk_11_90 rfl X_ic (pc' := 91) rfl ?_
    refine T_ld zk_11_91 rfl rfl rfl (pc' := 92) rfl ?_
    refine G_getf (lo := -2147483648) (hi := 2147483647) zk_11_92 rfl (vd_1 hc) (fun σ' h => h.1.1) (fun _ h => h.1) (pc' := 95) rfl (fun y13 hy13 hy13' => ?_)
    refine T_op zk_11_95 rfl X_ic (pc' := 96) rfl ?_
    refine G_unkD zk_11_96 (by first | exact Or.inl rfl | exact Or.inr rfl) (by omega) (pc' := 97) rfl (fun y14 hy14 hy14' => ?_)
    refine T_op zk_11_97 rfl (X_bi (v := 24) (by decide)) (pc' := 99) rfl ?_
    refine G_unkD zk_11_99 (by first | exact Or.inl rfl | exact Or.inr rfl) (by omega) (pc' := 100) rfl (fun y15 hy15 hy15' => ?_)
    refine G_iast (J' := (fun σ' => IF (MI c 21 21 21 21) σ σ' ∧ True)) (ln := 6) zk_11_100 rfl rfl (vd_21 hc) (by omega) (by omega) (by omega) (fun σ' h => ⟨h.1.up ⟨by omega, trivial⟩ (by unfold MI; omega), trivial⟩) (pc' := 101) rfl ?_
    refine T_ld zk_11_101 rfl rfl rfl (pc' := 102) rfl ?_
    refine T_getR (t' := 21) (i' := c) (k' := 0) zk_11_102 rfl rfl rfl (vd_1 hc) (pc' := 105) rfl ?_
    refine T_op zk_11_105 rfl X_ic (pc' := 106) rfl ?_
    refine T_ld zk_11_106 rfl rfl rfl (pc' := 107) rfl ?_
    refine T_calli (K := fun y16 σ' => (y16 = 0) ∧ (fun σ' => IF (MI c 21 21 21 21) σ σ' ∧ True) σ') (r := [iv 4, av 21 c 0]) zk_11_107 rfl rfl rfl rfl rfl rfl (Or.inr ⟨_, _, _, _, rfl, (vd_1 hc), rfl⟩) (fun σ' h => (c_18e c hc σ' h.1.1 ((h.1.2 _ _ _ _ (by unfold MI; omega)).trans s2)).le (Nat.le_of_ble_eq_true rfl) (fun v σ2 ⟨y, h1, h2, h3, h4⟩ => ⟨y, h1, h2, h.1.tr h3 MN_sub, trivial⟩)) (pc' := 110) rfl (fun y16 => ?_)
    refine G_ex (fun hy16 => ?_)
    obtain rfl : y16 = 0 := by omega
    refine G_iast (J' := (fun σ' => IF (MI c 21 21 21 21) σ σ' ∧ True)) (ln := 6) zk_11_110 rfl rfl (vd_21 hc) (by omega) (by omega) (by omega) (fun σ' h => ⟨h.1.up ⟨by omega, trivial⟩ (by unfold MI; omega), trivial⟩) (pc' := 111) rfl ?_
    refine T_ld zk_11_111 rfl rfl rfl (pc' := 112) rfl ?_
    refine T_getR (t' := 21) (i' := c) (k' := 0) zk_11_112 rfl rfl rfl (vd_1 hc) (pc' := 115) rfl ?_
    refine T_op zk_11_115 rfl X_ic (pc' := 116) rfl ?_
    refine T_ld zk_11_116 rfl rfl rfl (pc' := 117) rfl ?_
    refine G_getf (lo := -2147483648) (hi := 2147483647) zk_11_117 rfl (vd_1 hc) (fun σ' h => h.1.1) (fun _ h => h.1) (pc' := 120) rfl (fun y17 hy17 hy17' => ?_)
    refine T_op zk_11_120 rfl (X_bi (v := 96) (by decide)) (pc' := 122) rfl ?_
    refine G_unkD zk_11_122 (by first | exact Or.inl rfl | exact Or.inr rfl) (by omega) (pc' := 123) rfl (fun y18 hy18 hy18' => ?_)
    refine G_iast (J' := (fun σ' => IF (MI c 21 21 21 21) σ σ' ∧ True)) (ln := 6) zk_11_123 rfl rfl (vd_21 hc) (by omega) (by omega) (by omega) (fun σ' h => ⟨h.1.up ⟨by omega, trivial⟩ (by unfold MI; omega), trivial⟩) (pc' := 124) rfl ?_
    exact T_vret zk_11_124 rfl (fun σ' h => ⟨rfl, h.1, trivial⟩)
  ·
    refine T_ld zk_11_20 rfl rfl rfl (pc' := 21) rfl ?_
    refine T_ld zk_11_21 rfl rfl rfl (pc' := 22) rfl ?_
    refine T_getR (t' := 17) (i' := c) (k' := 1) zk_11_22 rfl rfl rfl (vd_1 hc) (pc' := 25) rfl ?_
    refine T_ld zk_11_25 rfl rfl rfl (pc' := 26) rfl ?_
    refine G_getf (lo := -2147483648) (hi := 2147483647) zk_11_26 rfl (vd_1 hc) (fun σ' h => h.1.1) (fun _ h => h.1) (pc' := 29) rfl (fun y19 hy19 hy19' => ?_)
    refine T_ld zk_11_29 rfl rfl rfl (pc' := 30) rfl ?_
    refine G_unk zk_11_30 rfl (pc' := 31) rfl (fun y20 hy20 hy20' => ?_)
    refine T_calli (K := fun y21 σ' => (y21 = 0) ∧ (fun σ' => IF (MI c 21 21 21 21) σ σ' ∧ True) σ') (r := [iv x3]) zk_11_31 rfl rfl rfl rfl rfl rfl (Or.inr ⟨_, _, _, _, rfl, (vd_17 hc (by omega)), rfl⟩) (fun σ' h => (c_73e c 1 y20 hc (by omega) (by omega) σ' h.1.1 ((h.1.2 _ _ _ _ (by unfold MI; omega)).trans s1)).le (Nat.le_of_ble_eq_true rfl) (fun v σ2 ⟨y, h1, h2, h3, h4⟩ => ⟨y, h1, h2, h.1.tr h3 MN_sub, trivial⟩)) (pc' := 34) rfl (fun y21 => ?_)
    refine G_ex (fun hy21 => ?_)
    obtain rfl : y21 = 0 := by omega
    refine T_max zk_11_34 rfl (by omega) (by omega) rfl (pc' := 37) rfl (fun y22 hy22 hy22' ey22 => ?_)
    refine T_st (L' := [(0, av 1 c 0), (1, iv y22), (2, iv x4)]) zk_11_37 (nL := 3) rfl rfl rfl rfl rfl (pc' := 38) rfl ?_
    refine T_iinc (L' := [(0, av 1 c 0), (1, iv y22), (2, iv (x4 + 1))]) zk_11_38 (nL := 3) rfl rfl rfl rfl (pc' := 41) rfl ?_
    refine T_goto zk_11_41 ?_
    exact ih5 y22 (x4 + 1) (by omega) (by omega)
/-- W$City.keepLaws -/
theorem c_14e {xs : Nat × (Nat → Int32)} (c : Nat) (hc : c < 3) (σ : ZS) (hI : Inv σ)  (s1 : σ 11 c 0 0 = 0) : CT xs 1 14 [av 1 c 0] σ (fun v σ' => v = none ∧ IF MN σ σ' ∧ (True)) := by
  refine G_ct (J := (fun σ' => IF MN σ σ' ∧ True)) (L := [(0, av 1 c 0)]) (nL := 5) rfl rfl rfl ⟨IF.rf hI, trivial⟩ ?_
  refine T_op zk_14_0 rfl X_ic (pc' := 1) rfl ?_
  refine T_st (L' := [(0, av 1 c 0), (1, iv 0)]) zk_14_1 (nL := 5) rfl rfl rfl rfl rfl (pc' := 2) rfl ?_
  refine T_loop1 (fun x1 => ((0 : Int)).toNat) (fun x1 => (0 ≤ x1 ∧ x1 ≤ 0)) (fun x1 => TJ xs (fun σ' => IF MN σ σ' ∧ True) 0 14 2 [(0, av 1 c 0), (1, iv x1)] [] _) ?_ 0 (by omega)
  intro x1 hp3 ih2
  refine T_ld zk_14_2 rfl rfl rfl (pc' := 3) rfl ?_
  refine T_ld zk_14_3 rfl rfl rfl (pc' := 4) rfl ?_
  refine T_getR (t' := 11) (i' := c) (k' := 0) zk_14_4 rfl rfl rfl (vd_1 hc) (pc' := 7) rfl ?_
  refine G_getX (w := 0) zk_14_7 rfl (vd_11 hc) (fun σ' h => (h.1.2 _ _ _ _ (fun q => q)).trans s1) (pc' := 10) rfl ?_
  refine T_icmp_ge zk_14_10 (by omega) (by omega) (pc' := 13) rfl (fun h4 => ?_) (fun h5 => ?_)
  ·
    exact T_vret zk_14_111 rfl (fun σ' h => ⟨rfl, h.1, trivial⟩)
  · exfalso; omega
/-- W$Lagoon.flow -/
theorem c_35z {xs : Nat × (Nat → Int32)} (c : Nat) (hc : c < 3) (σ : ZS) (hI : Inv σ)  (s1 : (∀ j, 0 ≤ j → j < 25 → σ 4 c 0 j = 0)) : CT xs 2 35 [av 2 c 0] σ (fun v σ' => v = none ∧ IF (MI c 4 6 10 10) σ σ' ∧ ((∀ j, 0 ≤ j → j < 25 → σ' 4 c 0 j = 0) ∧ True)) := by
  refine G_ct (J := (fun σ' => IF (MI c 4 6 10 10) σ σ' ∧ (∀ j, 0 ≤ j → j < 25 → σ' 4 c 0 j = 0) ∧ True)) (L := [(0, av 2 c 0)]) (nL := 5) rfl rfl rfl ⟨IF.rf hI, s1, trivial⟩ ?_
  refine T_ld zk_35_0 rfl rfl rfl (pc' := 1) rfl ?_
  refine T_getR (t' := 4) (i' := c) (k' := 0) zk_35_1 rfl rfl rfl (vd_2 hc) (pc' := 4) rfl ?_
  refine T_op zk_35_4 rfl X_ic (pc' := 5) rfl ?_
  refine T_ld zk_35_5 rfl rfl rfl (pc' := 6) rfl ?_
  refine T_getR (t' := 10) (i' := c) (k' := 0) zk_35_6 rfl rfl rfl (vd_2 hc) (pc' := 9) rfl ?_
  refine T_op zk_35_9 rfl X_ic (pc' := 10) rfl ?_
  refine T_op zk_35_10 rfl (X_bi (v := 25) (by decide)) (pc' := 12) rfl ?_
  refine G_copy (J' := (fun σ' => IF (MI c 4 6 10 10) σ σ' ∧ (∀ j, 0 ≤ j → j < 25 → σ' 4 c 0 j = 0) ∧ (∀ j, 0 ≤ j → j < 25 → σ' 10 c 0 j = 0) ∧ True)) (l0 := 25) (l1 := 25) (kk := 12) zk_35_12 rfl rfl (by decide) rfl rfl rfl rfl (vd_4 hc) (vd_10 hc) (by omega) (by omega) (by omega) (by omega) (by omega) (fun σ' h => ⟨h.1.cp (rg_cp0 rfl (fun _ _ h => h) (fun j => h.1.1 4 c 0 j (vd_4 hc)) (fun j => h.1.1 10 c 0 j (vd_10 hc))) (fun j => (by unfold MI; omega)), fun j a b => (congrFun (upr_oth _ _ _ (by omega)) j).trans (h.2.1 j a b), upr_cp0 (h.2.1) (by omega) (by omega), trivial⟩) (pc' := 15) rfl ?_
  refine T_op zk_35_15 rfl X_ic (pc' := 16) rfl ?_
  refine T_st (L' := [(0, av 2 c 0), (1, iv 0)]) zk_35_16 (nL := 5) rfl rfl rfl rfl rfl (pc' := 17) rfl ?_
  refine T_loop1 (fun x1 => ((40 - x1 : Int)).toNat) (fun x1 => (0 ≤ x1 ∧ x1 ≤ 40)) (fun x1 => TJ xs (fun σ' => IF (MI c 4 6 10 10) σ σ' ∧ (∀ j, 0 ≤ j → j < 25 → σ' 4 c 0 j = 0) ∧ (∀ j, 0 ≤ j → j < 25 → σ' 10 c 0 j = 0) ∧ True) 1 35 17 [(0, av 2 c 0), (1, iv x1)] [] _) ?_ 0 (by omega)
  intro x1 hp3 ih2
  refine T_ld zk_35_17 rfl rfl rfl (pc' := 18) rfl ?_
  refine T_op zk_35_18 rfl (X_bi (v := 40) (by decide)) (pc' := 20) rfl ?_
  refine T_icmp_ge zk_35_20 (by omega) (by omega) (pc' := 23) rfl (fun h4 => ?_) (fun h5 => ?_)
  ·
    exact T_vret zk_35_115 rfl (fun σ' h => ⟨rfl, h.1, ⟨h.2.1, trivial⟩⟩)
  ·
    refine T_ld zk_35_23 rfl rfl rfl (pc' := 24) rfl ?_
    refine T_getR (t' := 8) (i' := c) (k' := 0) zk_35_24 rfl rfl rfl (vd_2 hc) (pc' := 27) rfl ?_
    refine T_ld zk_35_27 rfl rfl rfl (pc' := 28) rfl ?_
    refine G_bald (lo := 0) (hi := 1) (ln := 40) zk_35_28 rfl rfl (vd_8 hc) (by omega) (by omega) (by omega) (fun σ' h => h.1.1) (fun _ h => h.2 (by omega) (by omega)) (pc' := 29) rfl (fun y6 hy6 hy6' => ?_)
    refine T_if_ne zk_35_29 (by omega) (pc' := 32) rfl (fun h7 => ?_) (fun h8 => ?_)
    ·
      refine T_iinc (L' := [(0, av 2 c 0), (1, iv (x1 + 1))]) zk_35_109 (nL := 5) rfl rfl rfl rfl (pc' := 112) rfl ?_
      refine T_goto zk_35_112 ?_
      exact ih2 (x1 + 1) (by omega) (by omega)
    ·
      refine T_ld zk_35_32 rfl rfl rfl (pc' := 33) rfl ?_
      refine T_calli (K := fun y9 σ' => (0 ≤ y9 ∧ y9 ≤ 24) ∧ (fun σ' => IF (MI c 4 6 10 10) σ σ' ∧ (∀ j, 0 ≤ j → j < 25 → σ' 4 c 0 j = 0) ∧ (∀ j, 0 ≤ j → j < 25 → σ' 10 c 0 j = 0) ∧ True) σ') (r := []) zk_35_33 rfl rfl rfl rfl rfl rfl (Or.inl (Or.inl rfl)) (fun σ' h => (c_31 x1 (by omega) σ' h.1.1 ).le (Nat.le_of_ble_eq_true rfl) (fun v σ2 ⟨y, h1, h2, h3, h4⟩ => ⟨y, h1, h2, h.1.tr h3 MN_sub, fun j a b => (h3.2 _ _ _ _ (fun q => q)).trans (h.2.1 j a b), fun j a b => (h3.2 _ _ _ _ (fun q => q)).trans (h.2.2.1 j a b), trivial⟩)) (pc' := 36) rfl (fun y9 => ?_)
      refine G_ex (fun hy9 => ?_)
      refine T_st (L' := [(0, av 2 c 0), (1, iv x1), (2, iv y9)]) zk_35_36 (nL := 5) rfl rfl rfl rfl rfl (pc' := 37) rfl ?_
      refine T_ld zk_35_37 rfl rfl rfl (pc' := 38) rfl ?_
      refine T_calli (K := fun y10 σ' => (0 ≤ y10 ∧ y10 ≤ 24) ∧ (fun σ' => IF (MI c 4 6 10 10) σ σ' ∧ (∀ j, 0 ≤ j → j < 25 → σ' 4 c 0 j = 0) ∧ (∀ j, 0 ≤ j → j < 25 → σ' 10 c 0 j = 0) ∧ True) σ') (r := []) zk_35_38 rfl rfl rfl rfl rfl rfl (Or.inl (Or.inl rfl)) (fun σ' h => (c_32 x1 (by omega) σ' h.1.1 ).le (Nat.le_of_ble_eq_true rfl) (fun v σ2 ⟨y, h1, h2, h3, h4⟩ => ⟨y, h1, h2, h.1.tr h3 MN_sub, fun j a b => (h3.2 _ _ _ _ (fun q => q)).trans (h.2.1 j a b), fun j a b => (h3.2 _ _ _ _ (fun q => q)).trans (h.2.2.1 j a b), trivial⟩)) (pc' := 41) rfl (fun y10 => ?_)
      refine G_ex (fun hy10 => ?_)
      refine T_st (L' := [(0, av 2 c 0), (1, iv x1), (2, iv y9), (3, iv y10)]) zk_35_41 (nL := 5) rfl rfl rfl rfl rfl (pc' := 42) rfl ?_
      refine T_ld zk_35_42 rfl rfl rfl (pc' := 43) rfl ?_
      refine T_getR (t' := 10) (i' := c) (k' := 0) zk_35_43 rfl rfl rfl (vd_2 hc) (pc' := 46) rfl ?_
      refine T_ld zk_35_46 rfl rfl rfl (pc' := 47) rfl ?_
      refine G_ialdX (w := 0) (ln := 25) zk_35_47 rfl rfl (vd_10 hc) (by omega) (by omega) (by omega) (fun σ' h => h.2.2.1 _ (by omega) (by omega)) (pc' := 48) rfl ?_
      refine T_ld zk_35_48 rfl rfl rfl (pc' := 49) rfl ?_
      refine T_getR (t' := 10) (i' := c) (k' := 0) zk_35_49 rfl rfl rfl (vd_2 hc) (pc' := 52) rfl ?_
      refine T_ld zk_35_52 rfl rfl rfl (pc' := 53) rfl ?_
      refine G_ialdX (w := 0) (ln := 25) zk_35_53 rfl rfl (vd_10 hc) (by omega) (by omega) (by omega) (fun σ' h => h.2.2.1 _ (by omega) (by omega)) (pc' := 54) rfl ?_
      refine T_opc (w := 0) zk_35_54 rfl X_sub (by omega) (pc' := 55) rfl ?_
      refine T_op zk_35_55 rfl X_ic (pc' := 56) rfl ?_
      refine T_opc (w := 0) zk_35_56 rfl (X_div (by omega) (by omega)) (by omega) (pc' := 57) rfl ?_
      refine T_st (L' := [(0, av 2 c 0), (1, iv x1), (2, iv y9), (3, iv y10), (4, iv 0)]) zk_35_57 (nL := 5) rfl rfl rfl rfl rfl (pc' := 59) rfl ?_
      refine T_ld zk_35_59 rfl rfl rfl (pc' := 60) rfl ?_
      refine T_getR (t' := 4) (i' := c) (k' := 0) zk_35_60 rfl rfl rfl (vd_2 hc) (pc' := 63) rfl ?_
      refine T_ld zk_35_63 rfl rfl rfl (pc' := 64) rfl ?_
      refine T_op (st' := [iv y9, av 4 c 0, iv y9, av 4 c 0]) zk_35_64 rfl rfl (pc' := 65) rfl ?_
      refine G_ialdX (w := 0) (ln := 25) zk_35_65 rfl rfl (vd_4 hc) (by omega) (by omega) (by omega) (fun σ' h => h.2.1 _ (by omega) (by omega)) (pc' := 66) rfl ?_
      refine T_ld zk_35_66 rfl rfl rfl (pc' := 68) rfl ?_
      refine T_opc (w := 0) zk_35_68 rfl X_sub (by omega) (pc' := 69) rfl ?_
      refine G_iast (J' := (fun σ' => IF (MI c 4 6 10 10) σ σ' ∧ (∀ j, 0 ≤ j → j < 25 → σ' 4 c 0 j = 0) ∧ (∀ j, 0 ≤ j → j < 25 → σ' 10 c 0 j = 0) ∧ True)) (ln := 25) zk_35_69 rfl rfl (vd_4 hc) (by omega) (by omega) (by omega) (fun σ' h => ⟨h.1.up ⟨by omega, trivial⟩ (by unfold MI; omega), up_rng (h.2.1) (by omega), up_rngn (h.2.2.1) (by omega), trivial⟩) (pc' := 70) rfl ?_
      refine T_ld zk_35_70 rfl rfl rfl (pc' := 71) rfl ?_
      refine T_getR (t' := 4) (i' := c) (k' := 0) zk_35_71 rfl rfl rfl (vd_2 hc) (pc' := 74) rfl ?_
      refine T_ld zk_35_74 rfl rfl rfl (pc' := 75) rfl ?_
      refine T_op (st' := [iv y10, av 4 c 0, iv y10, av 4 c 0]) zk_35_75 rfl rfl (pc' := 76) rfl ?_
      refine G_ialdX (w := 0) (ln := 25) zk_35_76 rfl rfl (vd_4 hc) (by omega) (by omega) (by omega) (fun σ' h => h.2.1 _ (by omega) (by omega)) (pc' := 77) rfl ?_
      refine T_ld zk_35_77 rfl rfl rfl (pc' := 79) rfl ?_
      refine T_opc (w := 0) zk_35_79 rfl X_add (by omega) (pc' := 80) rfl ?_
      refine G_iast (J' := (fun σ' => IF (MI c 4 6 10 10) σ σ' ∧ (∀ j, 0 ≤ j → j < 25 → σ' 4 c 0 j = 0) ∧ (∀ j, 0 ≤ j → j < 25 → σ' 10 c 0 j = 0) ∧ True)) (ln := 25) zk_35_80 rfl rfl (vd_4 hc) (by omega) (by omega) (by omega) (fun σ' h => ⟨h.1.up ⟨by omega, trivial⟩ (by unfold MI; omega), up_rng (h.2.1) (by omega), up_rngn (h.2.2.1) (by omega), trivial⟩) (pc' := 81) rfl ?_
      refine T_ld zk_35_81 rfl rfl rfl (pc' := 82) rfl ?_
      refine T_getR (t' := 6) (i' := c) (k' := 0) zk_35_82 rfl rfl rfl (vd_2 hc) (pc' := 85) rfl ?_
      refine T_ld zk_35_85 rfl rfl rfl (pc' := 86) rfl ?_
      refine T_op (st' := [iv y9, av 6 c 0, iv y9, av 6 c 0]) zk_35_86 rfl rfl (pc' := 87) rfl ?_
      refine G_iald (lo := -2147483648) (hi := 2147483647) (ln := 25) zk_35_87 rfl rfl (vd_6 hc) (by omega) (by omega) (by omega) (fun σ' h => h.1.1) (fun _ h => h.1) (pc' := 88) rfl (fun y11 hy11 hy11' => ?_)
      refine T_ld zk_35_88 rfl rfl rfl (pc' := 90) rfl ?_
      refine T_absU zk_35_90 rfl rfl (pc' := 93) rfl (fun y12 ey12 => ?_)
      obtain rfl : y12 = 0 := ey12 rfl
      refine T_op zk_35_93 rfl X_add (pc' := 94) rfl ?_
      refine G_iast (J' := (fun σ' => IF (MI c 4 6 10 10) σ σ' ∧ (∀ j, 0 ≤ j → j < 25 → σ' 4 c 0 j = 0) ∧ (∀ j, 0 ≤ j → j < 25 → σ' 10 c 0 j = 0) ∧ True)) (ln := 25) zk_35_94 rfl rfl (vd_6 hc) (by omega) (by omega) (by omega) (fun σ' h => ⟨h.1.up ⟨by omega, trivial⟩ (by unfold MI; omega), up_rngn (h.2.1) (by omega), up_rngn (h.2.2.1) (by omega), trivial⟩) (pc' := 95) rfl ?_
      refine T_ld zk_35_95 rfl rfl rfl (pc' := 96) rfl ?_
      refine T_getR (t' := 6) (i' := c) (k' := 0) zk_35_96 rfl rfl rfl (vd_2 hc) (pc' := 99) rfl ?_
      refine T_ld zk_35_99 rfl rfl rfl (pc' := 100) rfl ?_
      refine T_op (st' := [iv y10, av 6 c 0, iv y10, av 6 c 0]) zk_35_100 rfl rfl (pc' := 101) rfl ?_
      refine G_iald (lo := -2147483648) (hi := 2147483647) (ln := 25) zk_35_101 rfl rfl (vd_6 hc) (by omega) (by omega) (by omega) (fun σ' h => h.1.1) (fun _ h => h.1) (pc' := 102) rfl (fun y13 hy13 hy13' => ?_)
      refine T_ld zk_35_102 rfl rfl rfl (pc' := 104) rfl ?_
      refine T_absU zk_35_104 rfl rfl (pc' := 107) rfl (fun y14 ey14 => ?_)
      obtain rfl : y14 = 0 := ey14 rfl
      refine T_op zk_35_107 rfl X_add (pc' := 108) rfl ?_
      refine G_iast (J' := (fun σ' => IF (MI c 4 6 10 10) σ σ' ∧ (∀ j, 0 ≤ j → j < 25 → σ' 4 c 0 j = 0) ∧ (∀ j, 0 ≤ j → j < 25 → σ' 10 c 0 j = 0) ∧ True)) (ln := 25) zk_35_108 rfl rfl (vd_6 hc) (by omega) (by omega) (by omega) (fun σ' h => ⟨h.1.up ⟨by omega, trivial⟩ (by unfold MI; omega), up_rngn (h.2.1) (by omega), up_rngn (h.2.2.1) (by omega), trivial⟩) (pc' := 109) rfl ?_
      refine T_iinc (L' := [(0, av 2 c 0), (1, iv (x1 + 1)), (2, iv y9), (3, iv y10), (4, iv 0)]) zk_35_109 (nL := 5) rfl rfl rfl rfl (pc' := 112) rfl ?_
      refine T_goto zk_35_112 ?_
      refine T_loc (L := [(0, av 2 c 0), (1, iv (x1 + 1))]) (E := [(2, iv y9), (3, iv y10), (4, iv 0)]) rfl ?_
      exact ih2 (x1 + 1) (by omega) (by omega)
/-- W$City.liveWaters -/
theorem c_12e {xs : Nat × (Nat → Int32)} (c : Nat) (p0 : Int) (hc : c < 3) (h0 : 0 ≤ p0 ∧ p0 ≤ 1) (σ : ZS) (hI : Inv σ)  (s1 : σ 17 c 1 0 = 0) (s2 : σ 1 c 0 7 = 0) (s3 : σ 11 c 0 0 = 0) (s4 : (∀ j, 0 ≤ j → j < 25 → σ 4 c 0 j = 0)) (s5 : σ 17 c (Int.toNat p0) 0 = 0) : CT xs 3 12 [av 1 c 0, iv p0] σ (fun v σ' => v = none ∧ IF (MI c 4 6 10 21) σ σ' ∧ ((∀ j, 0 ≤ j → j < 25 → σ' 4 c 0 j = 0) ∧ True)) := by
  refine G_ct (J := (fun σ' => IF (MI c 4 6 10 21) σ σ' ∧ (∀ j, 0 ≤ j → j < 25 → σ' 4 c 0 j = 0) ∧ True)) (L := [(0, av 1 c 0), (1, iv p0)]) (nL := 6) rfl rfl rfl ⟨IF.rf hI, s4, trivial⟩ ?_
  refine T_ld zk_12_0 rfl rfl rfl (pc' := 1) rfl ?_
  refine T_callv (J' := (fun σ' => IF (MI c 4 6 10 21) σ σ' ∧ (∀ j, 0 ≤ j → j < 25 → σ' 4 c 0 j = 0) ∧ True)) (r := []) zk_12_1 rfl rfl rfl rfl rfl rfl (Or.inr ⟨_, _, _, _, rfl, (vd_1 hc), rfl⟩) (fun σ' h => (c_11e c hc σ' h.1.1 ((h.1.2 _ _ _ _ (by unfold MI; omega)).trans s1) ((h.1.2 _ _ _ _ (by unfold MI; omega)).trans s2)).le (Nat.le_of_ble_eq_true rfl) (fun v σ2 ⟨h1, h3, h4⟩ => ⟨h1, h.1.tr h3 (fun t i k j h => by unfold MI at h; unfold MI; omega), fun j a b => (h3.2 _ _ _ _ (by unfold MI; omega)).trans (h.2.1 j a b), trivial⟩)) (pc' := 4) rfl ?_
  refine T_ld zk_12_4 rfl rfl rfl (pc' := 5) rfl ?_
  refine T_callv (J' := (fun σ' => IF (MI c 4 6 10 21) σ σ' ∧ (∀ j, 0 ≤ j → j < 25 → σ' 4 c 0 j = 0) ∧ True)) (r := []) zk_12_5 rfl rfl rfl rfl rfl rfl (Or.inr ⟨_, _, _, _, rfl, (vd_1 hc), rfl⟩) (fun σ' h => (c_14e c hc σ' h.1.1 ((h.1.2 _ _ _ _ (by unfold MI; omega)).trans s3)).le (Nat.le_of_ble_eq_true rfl) (fun v σ2 ⟨h1, h3, h4⟩ => ⟨h1, h.1.tr h3 MN_sub, fun j a b => (h3.2 _ _ _ _ (fun q => q)).trans (h.2.1 j a b), trivial⟩)) (pc' := 8) rfl ?_
  refine T_ld zk_12_8 rfl rfl rfl (pc' := 9) rfl ?_
  refine T_ld zk_12_9 rfl rfl rfl (pc' := 10) rfl ?_
  refine T_callr (t := 17) (i := c) (k := (Int.toNat p0)) (J' := (fun σ' => IF (MI c 4 6 10 21) σ σ' ∧ (∀ j, 0 ≤ j → j < 25 → σ' 4 c 0 j = 0) ∧ True)) (r := []) zk_12_10 rfl rfl rfl rfl rfl rfl (Or.inr ⟨_, _, _, _, rfl, (vd_1 hc), rfl⟩) (fun σ' h => (c_10 c p0 hc (by omega) σ' h.1.1 ).le (Nat.le_of_ble_eq_true rfl) (fun v σ2 ⟨h1, h3, h4⟩ => ⟨h1, h.1.tr h3 MN_sub, fun j a b => (h3.2 _ _ _ _ (fun q => q)).trans (h.2.1 j a b), trivial⟩)) (pc' := 13) rfl ?_
  refine T_ld zk_12_13 rfl rfl rfl (pc' := 14) rfl ?_
  refine G_getf (lo := -2147483648) (hi := 2147483647) zk_12_14 rfl (vd_1 hc) (fun σ' h => h.1.1) (fun _ h => h.1) (pc' := 17) rfl (fun y4 hy4 hy4' => ?_)
  refine T_calli (K := fun y5 σ' => (y5 = 0) ∧ (fun σ' => IF (MI c 4 6 10 21) σ σ' ∧ (∀ j, 0 ≤ j → j < 25 → σ' 4 c 0 j = 0) ∧ True) σ') (r := []) zk_12_17 rfl rfl rfl rfl rfl rfl (Or.inr ⟨_, _, _, _, rfl, (vd_17 hc (by omega)), rfl⟩) (fun σ' h => (c_73e c (Int.toNat p0) y4 hc (by omega) (by omega) σ' h.1.1 ((h.1.2 _ _ _ _ (by unfold MI; omega)).trans s5)).le (Nat.le_of_ble_eq_true rfl) (fun v σ2 ⟨y, h1, h2, h3, h4⟩ => ⟨y, h1, h2, h.1.tr h3 MN_sub, fun j a b => (h3.2 _ _ _ _ (fun q => q)).trans (h.2.1 j a b), trivial⟩)) (pc' := 20) rfl (fun y5 => ?_)
  refine G_ex (fun hy5 => ?_)
  obtain rfl : y5 = 0 := by omega
  refine T_st (L' := [(0, av 1 c 0), (1, iv p0), (2, iv 0)]) zk_12_20 (nL := 6) rfl rfl rfl rfl rfl (pc' := 21) rfl ?_
  refine T_ld zk_12_21 rfl rfl rfl (pc' := 22) rfl ?_
  refine T_getR (t' := 11) (i' := c) (k' := 0) zk_12_22 rfl rfl rfl (vd_1 hc) (pc' := 25) rfl ?_
  refine T_calli (K := fun y6 σ' => (y6 = 0) ∧ (fun σ' => IF (MI c 4 6 10 21) σ σ' ∧ (∀ j, 0 ≤ j → j < 25 → σ' 4 c 0 j = 0) ∧ True) σ') (r := []) zk_12_25 rfl rfl rfl rfl rfl rfl (Or.inr ⟨_, _, _, _, rfl, (vd_11 hc), rfl⟩) (fun σ' h => (c_63e c hc σ' h.1.1 ((h.1.2 _ _ _ _ (by unfold MI; omega)).trans s3)).le (Nat.le_of_ble_eq_true rfl) (fun v σ2 ⟨y, h1, h2, h3, h4⟩ => ⟨y, h1, h2, h.1.tr h3 MN_sub, fun j a b => (h3.2 _ _ _ _ (fun q => q)).trans (h.2.1 j a b), trivial⟩)) (pc' := 28) rfl (fun y6 => ?_)
  refine G_ex (fun hy6 => ?_)
  obtain rfl : y6 = 0 := by omega
  refine T_if_le zk_12_28 (by omega) (pc' := 31) rfl (fun h7 => ?_) (fun h8 => ?_)
  ·
    refine T_op zk_12_51 rfl X_ic (pc' := 52) rfl ?_
    refine T_st (L' := [(0, av 1 c 0), (1, iv p0), (2, iv 0), (3, iv 0)]) zk_12_52 (nL := 6) rfl rfl rfl rfl rfl (pc' := 53) rfl ?_
    refine T_loop1 (fun x9 => ((0 : Int)).toNat) (fun x9 => (0 ≤ x9 ∧ x9 ≤ 0)) (fun x9 => TJ xs (fun σ' => IF (MI c 4 6 10 21) σ σ' ∧ (∀ j, 0 ≤ j → j < 25 → σ' 4 c 0 j = 0) ∧ True) 2 12 53 [(0, av 1 c 0), (1, iv p0), (2, iv 0), (3, iv x9)] [] _) ?_ 0 (by omega)
    intro x9 hp11 ih10
    refine T_ld zk_12_53 rfl rfl rfl (pc' := 54) rfl ?_
    refine T_ld zk_12_54 rfl rfl rfl (pc' := 55) rfl ?_
    refine T_getR (t' := 11) (i' := c) (k' := 0) zk_12_55 rfl rfl rfl (vd_1 hc) (pc' := 58) rfl ?_
    refine G_getX (w := 0) zk_12_58 rfl (vd_11 hc) (fun σ' h => (h.1.2 _ _ _ _ (by unfold MI; omega)).trans s3) (pc' := 61) rfl ?_
    refine T_icmp_ge zk_12_61 (by omega) (by omega) (pc' := 64) rfl (fun h12 => ?_) (fun h13 => ?_)
    ·
      refine T_ld zk_12_135 rfl rfl rfl (pc' := 136) rfl ?_
      refine T_getR (t' := 2) (i' := c) (k' := 0) zk_12_136 rfl rfl rfl (vd_1 hc) (pc' := 139) rfl ?_
      refine T_callv (J' := (fun σ' => IF (MI c 4 6 10 21) σ σ' ∧ (∀ j, 0 ≤ j → j < 25 → σ' 4 c 0 j = 0) ∧ True)) (r := []) zk_12_139 rfl rfl rfl rfl rfl rfl (Or.inr ⟨_, _, _, _, rfl, (vd_2 hc), rfl⟩) (fun σ' h => (c_35z c hc σ' h.1.1 (fun j a b => h.2.1 j (by omega) (by omega))).le (Nat.le_of_ble_eq_true rfl) (fun v σ2 ⟨h1, h3, h4⟩ => ⟨h1, h.1.tr h3 (fun t i k j h => by unfold MI at h; unfold MI; omega), h4.1, trivial⟩)) (pc' := 142) rfl ?_
      exact T_vret zk_12_142 rfl (fun σ' h => ⟨rfl, h.1, ⟨h.2.1, trivial⟩⟩)
    · exfalso; omega
  · exfalso; omega
/-- W$City.sailAll -/
theorem c_15e {xs : Nat × (Nat → Int32)} (c : Nat) (hc : c < 3) (σ : ZS) (hI : Inv σ)  (s1 : σ 1 c 0 7 = 0) : CT xs 1 15 [av 1 c 0] σ (fun v σ' => v = none ∧ IF (MI c 22 22 22 22) σ σ' ∧ (True)) := by
  refine G_ct (J := (fun σ' => IF (MI c 22 22 22 22) σ σ' ∧ True)) (L := [(0, av 1 c 0)]) (nL := 3) rfl rfl rfl ⟨IF.rf hI, trivial⟩ ?_
  refine T_op zk_15_0 rfl X_ic (pc' := 1) rfl ?_
  refine T_st (L' := [(0, av 1 c 0), (1, iv 0)]) zk_15_1 (nL := 3) rfl rfl rfl rfl rfl (pc' := 2) rfl ?_
  refine T_loop1 (fun x1 => ((40 - x1 : Int)).toNat) (fun x1 => (0 ≤ x1 ∧ x1 ≤ 40)) (fun x1 => TJ xs (fun σ' => IF (MI c 22 22 22 22) σ σ' ∧ True) 0 15 2 [(0, av 1 c 0), (1, iv x1)] [] _) ?_ 0 (by omega)
  intro x1 hp3 ih2
  refine T_ld zk_15_2 rfl rfl rfl (pc' := 3) rfl ?_
  refine T_op zk_15_3 rfl (X_bi (v := 40) (by decide)) (pc' := 5) rfl ?_
  refine T_icmp_ge zk_15_5 (by omega) (by omega) (pc' := 8) rfl (fun h4 => ?_) (fun h5 => ?_)
  ·
    refine T_op zk_15_21 rfl (X_bi (v := 9) (by decide)) (pc' := 23) rfl ?_
    refine T_st (L' := [(0, av 1 c 0), (1, iv 9)]) zk_15_23 (nL := 3) rfl rfl rfl rfl rfl (pc' := 24) rfl ?_
    refine T_loop1 (fun x6 => ((x6 + 1 : Int)).toNat) (fun x6 => (-1 ≤ x6 ∧ x6 ≤ 9)) (fun x6 => TJ xs (fun σ' => IF (MI c 22 22 22 22) σ σ' ∧ True) 0 15 24 [(0, av 1 c 0), (1, iv x6)] [] _) ?_ 9 (by omega)
    intro x6 hp8 ih7
    refine T_ld zk_15_24 rfl rfl rfl (pc' := 25) rfl ?_
    refine T_if_lt zk_15_25 (by omega) (pc' := 28) rfl (fun h9 => ?_) (fun h10 => ?_)
    ·
      exact T_vret zk_15_86 rfl (fun σ' h => ⟨rfl, h.1, trivial⟩)
    ·
      refine T_op zk_15_28 rfl X_ic (pc' := 29) rfl ?_
      refine T_st (L' := [(0, av 1 c 0), (1, iv x6), (2, iv 0)]) zk_15_29 (nL := 3) rfl rfl rfl rfl rfl (pc' := 30) rfl ?_
      refine T_loop1 (fun x11 => ((0 : Int)).toNat) (fun x11 => (0 ≤ x11 ∧ x11 ≤ 0)) (fun x11 => TJ xs (fun σ' => IF (MI c 22 22 22 22) σ σ' ∧ True) 0 15 30 [(0, av 1 c 0), (1, iv x6), (2, iv x11)] [] _) ?_ 0 (by omega)
      intro x11 hp13 ih12
      refine T_ld zk_15_30 rfl rfl rfl (pc' := 31) rfl ?_
      refine T_ld zk_15_31 rfl rfl rfl (pc' := 32) rfl ?_
      refine G_getX (w := 0) zk_15_32 rfl (vd_1 hc) (fun σ' h => (h.1.2 _ _ _ _ (by unfold MI; omega)).trans s1) (pc' := 35) rfl ?_
      refine T_icmp_ge zk_15_35 (by omega) (by omega) (pc' := 38) rfl (fun h14 => ?_) (fun h15 => ?_)
      ·
        refine T_iinc (L' := [(0, av 1 c 0), (1, iv (x6 + (-1))), (2, iv x11)]) zk_15_80 (nL := 3) rfl rfl rfl rfl (pc' := 83) rfl ?_
        refine T_goto zk_15_83 ?_
        refine T_loc (L := [(0, av 1 c 0), (1, iv (x6 + (-1)))]) (E := [(2, iv x11)]) rfl ?_
        exact ih7 (x6 + (-1)) (by omega) (by omega)
      · exfalso; omega
  ·
    refine T_ld zk_15_8 rfl rfl rfl (pc' := 9) rfl ?_
    refine T_getR (t' := 22) (i' := c) (k' := 0) zk_15_9 rfl rfl rfl (vd_1 hc) (pc' := 12) rfl ?_
    refine T_ld zk_15_12 rfl rfl rfl (pc' := 13) rfl ?_
    refine T_op zk_15_13 rfl X_ic (pc' := 14) rfl ?_
    refine G_bast (J' := (fun σ' => IF (MI c 22 22 22 22) σ σ' ∧ True)) (ln := 40) zk_15_14 rfl rfl (by omega) (vd_22 hc) (by omega) (by omega) (by omega) (fun σ' h => ⟨h.1.up (by simp only [rgP] <;> omega) (by unfold MI; omega), trivial⟩) (pc' := 15) rfl ?_
    refine T_iinc (L' := [(0, av 1 c 0), (1, iv (x1 + 1))]) zk_15_15 (nL := 3) rfl rfl rfl rfl (pc' := 18) rfl ?_
    refine T_goto zk_15_18 ?_
    exact ih2 (x1 + 1) (by omega) (by omega)
/-- W$Lagoon.endDay -/
theorem c_38 {xs : Nat × (Nat → Int32)} (c : Nat) (p0 : Int) (hc : c < 3) (h0 : -2147483648 ≤ p0 ∧ p0 ≤ 2147483647) (σ : ZS) (hI : Inv σ)   : CT xs 1 38 [av 2 c 0, iv p0] σ (fun v σ' => v = none ∧ IF (MI c 3 6 6 6) σ σ' ∧ (True)) := by
  refine G_ct (J := (fun σ' => IF (MI c 3 6 6 6) σ σ' ∧ True)) (L := [(0, av 2 c 0), (1, iv p0)]) (nL := 3) rfl rfl rfl ⟨IF.rf hI, trivial⟩ ?_
  refine T_op zk_38_0 rfl X_ic (pc' := 1) rfl ?_
  refine T_st (L' := [(0, av 2 c 0), (1, iv p0), (2, iv 0)]) zk_38_1 (nL := 3) rfl rfl rfl rfl rfl (pc' := 2) rfl ?_
  refine T_loop1 (fun x1 => ((25 - x1 : Int)).toNat) (fun x1 => (0 ≤ x1 ∧ x1 ≤ 25)) (fun x1 => TJ xs (fun σ' => IF (MI c 3 6 6 6) σ σ' ∧ True) 0 38 2 [(0, av 2 c 0), (1, iv p0), (2, iv x1)] [] _) ?_ 0 (by omega)
  intro x1 hp3 ih2
  refine T_ld zk_38_2 rfl rfl rfl (pc' := 3) rfl ?_
  refine T_op zk_38_3 rfl (X_bi (v := 25) (by decide)) (pc' := 5) rfl ?_
  refine T_icmp_ge zk_38_5 (by omega) (by omega) (pc' := 8) rfl (fun h4 => ?_) (fun h5 => ?_)
  ·
    exact T_vret zk_38_50 rfl (fun σ' h => ⟨rfl, h.1, trivial⟩)
  ·
    refine T_ld zk_38_8 rfl rfl rfl (pc' := 9) rfl ?_
    refine T_getR (t' := 6) (i' := c) (k' := 0) zk_38_9 rfl rfl rfl (vd_2 hc) (pc' := 12) rfl ?_
    refine T_ld zk_38_12 rfl rfl rfl (pc' := 13) rfl ?_
    refine G_iald (lo := -2147483648) (hi := 2147483647) (ln := 25) zk_38_13 rfl rfl (vd_6 hc) (by omega) (by omega) (by omega) (fun σ' h => h.1.1) (fun _ h => h.1) (pc' := 14) rfl (fun y6 hy6 hy6' => ?_)
    refine T_ld zk_38_14 rfl rfl rfl (pc' := 15) rfl ?_
    refine T_icmp_ge zk_38_15 (by omega) (by omega) (pc' := 18) rfl (fun h7 => ?_) (fun h8 => ?_)
    ·
      refine T_ld zk_38_37 rfl rfl rfl (pc' := 38) rfl ?_
      refine T_getR (t' := 6) (i' := c) (k' := 0) zk_38_38 rfl rfl rfl (vd_2 hc) (pc' := 41) rfl ?_
      refine T_ld zk_38_41 rfl rfl rfl (pc' := 42) rfl ?_
      refine T_op zk_38_42 rfl X_ic (pc' := 43) rfl ?_
      refine G_iast (J' := (fun σ' => IF (MI c 3 6 6 6) σ σ' ∧ True)) (ln := 25) zk_38_43 rfl rfl (vd_6 hc) (by omega) (by omega) (by omega) (fun σ' h => ⟨h.1.up ⟨by omega, trivial⟩ (by unfold MI; omega), trivial⟩) (pc' := 44) rfl ?_
      refine T_iinc (L' := [(0, av 2 c 0), (1, iv p0), (2, iv (x1 + 1))]) zk_38_44 (nL := 3) rfl rfl rfl rfl (pc' := 47) rfl ?_
      refine T_goto zk_38_47 ?_
      exact ih2 (x1 + 1) (by omega) (by omega)
    ·
      refine T_ld zk_38_18 rfl rfl rfl (pc' := 19) rfl ?_
      refine T_getR (t' := 3) (i' := c) (k' := 0) zk_38_19 rfl rfl rfl (vd_2 hc) (pc' := 22) rfl ?_
      refine T_ld zk_38_22 rfl rfl rfl (pc' := 23) rfl ?_
      refine G_iald (lo := -2147483648) (hi := 2147483647) (ln := 25) zk_38_23 rfl rfl (vd_3 hc) (by omega) (by omega) (by omega) (fun σ' h => h.1.1) (fun _ h => h.1) (pc' := 24) rfl (fun y9 hy9 hy9' => ?_)
      refine T_if_le zk_38_24 (by omega) (pc' := 27) rfl (fun h10 => ?_) (fun h11 => ?_)
      ·
        refine T_ld zk_38_37 rfl rfl rfl (pc' := 38) rfl ?_
        refine T_getR (t' := 6) (i' := c) (k' := 0) zk_38_38 rfl rfl rfl (vd_2 hc) (pc' := 41) rfl ?_
        refine T_ld zk_38_41 rfl rfl rfl (pc' := 42) rfl ?_
        refine T_op zk_38_42 rfl X_ic (pc' := 43) rfl ?_
        refine G_iast (J' := (fun σ' => IF (MI c 3 6 6 6) σ σ' ∧ True)) (ln := 25) zk_38_43 rfl rfl (vd_6 hc) (by omega) (by omega) (by omega) (fun σ' h => ⟨h.1.up ⟨by omega, trivial⟩ (by unfold MI; omega), trivial⟩) (pc' := 44) rfl ?_
        refine T_iinc (L' := [(0, av 2 c 0), (1, iv p0), (2, iv (x1 + 1))]) zk_38_44 (nL := 3) rfl rfl rfl rfl (pc' := 47) rfl ?_
        refine T_goto zk_38_47 ?_
        exact ih2 (x1 + 1) (by omega) (by omega)
      ·
        refine T_ld zk_38_27 rfl rfl rfl (pc' := 28) rfl ?_
        refine T_getR (t' := 3) (i' := c) (k' := 0) zk_38_28 rfl rfl rfl (vd_2 hc) (pc' := 31) rfl ?_
        refine T_ld zk_38_31 rfl rfl rfl (pc' := 32) rfl ?_
        refine T_op (st' := [iv x1, av 3 c 0, iv x1, av 3 c 0]) zk_38_32 rfl rfl (pc' := 33) rfl ?_
        refine G_iald (lo := -2147483648) (hi := 2147483647) (ln := 25) zk_38_33 rfl rfl (vd_3 hc) (by omega) (by omega) (by omega) (fun σ' h => h.1.1) (fun _ h => h.1) (pc' := 34) rfl (fun y12 hy12 hy12' => ?_)
        refine T_op zk_38_34 rfl X_ic (pc' := 35) rfl ?_
        refine G_unk zk_38_35 rfl (pc' := 36) rfl (fun y13 hy13 hy13' => ?_)
        refine G_iast (J' := (fun σ' => IF (MI c 3 6 6 6) σ σ' ∧ True)) (ln := 25) zk_38_36 rfl rfl (vd_3 hc) (by omega) (by omega) (by omega) (fun σ' h => ⟨h.1.up ⟨by omega, trivial⟩ (by unfold MI; omega), trivial⟩) (pc' := 37) rfl ?_
        refine T_ld zk_38_37 rfl rfl rfl (pc' := 38) rfl ?_
        refine T_getR (t' := 6) (i' := c) (k' := 0) zk_38_38 rfl rfl rfl (vd_2 hc) (pc' := 41) rfl ?_
        refine T_ld zk_38_41 rfl rfl rfl (pc' := 42) rfl ?_
        refine T_op zk_38_42 rfl X_ic (pc' := 43) rfl ?_
        refine G_iast (J' := (fun σ' => IF (MI c 3 6 6 6) σ σ' ∧ True)) (ln := 25) zk_38_43 rfl rfl (vd_6 hc) (by omega) (by omega) (by omega) (fun σ' h => ⟨h.1.up ⟨by omega, trivial⟩ (by unfold MI; omega), trivial⟩) (pc' := 44) rfl ?_
        refine T_iinc (L' := [(0, av 2 c 0), (1, iv p0), (2, iv (x1 + 1))]) zk_38_44 (nL := 3) rfl rfl rfl rfl (pc' := 47) rfl ?_
        refine T_goto zk_38_47 ?_
        exact ih2 (x1 + 1) (by omega) (by omega)
/-- W$City.livePeople -/
theorem c_13e {xs : Nat × (Nat → Int32)} (c : Nat) (n : Int) (hc : c < 3) (hn : 0 ≤ n ∧ n ≤ 29999) (σ : ZS) (hI : Inv σ)  (s1 : σ 1 c 0 7 = 0) (s2 : σ 1 c 0 6 = 0) (s3 : σ 11 c 0 0 = 0) (s4 : σ 1 c 0 13 = n) : CT xs 2 13 [av 1 c 0] σ (fun v σ' => v = none ∧ IF (MP c) σ σ' ∧ (σ' 1 c 0 13 = n + 1 ∧ True)) := by
  refine G_ct (J := (fun σ' => IF (MP c) σ σ' ∧ σ' 1 c 0 13 = n ∧ True)) (L := [(0, av 1 c 0)]) (nL := 3) rfl rfl rfl ⟨IF.rf hI, s4, trivial⟩ ?_
  refine T_ld zk_13_0 rfl rfl rfl (pc' := 1) rfl ?_
  refine T_callv (J' := (fun σ' => IF (MP c) σ σ' ∧ σ' 1 c 0 13 = n ∧ True)) (r := []) zk_13_1 rfl rfl rfl rfl rfl rfl (Or.inr ⟨_, _, _, _, rfl, (vd_1 hc), rfl⟩) (fun σ' h => (c_15e c hc σ' h.1.1 ((h.1.2 _ _ _ _ (by unfold MP; omega)).trans s1)).le (Nat.le_of_ble_eq_true rfl) (fun v σ2 ⟨h1, h3, h4⟩ => ⟨h1, h.1.tr h3 (fun t i k j h => by unfold MI at h; unfold MP; omega), (h3.2 _ _ _ _ (by unfold MI; omega)).trans (h.2.1), trivial⟩)) (pc' := 4) rfl ?_
  refine T_op zk_13_4 rfl X_ic (pc' := 5) rfl ?_
  refine T_st (L' := [(0, av 1 c 0), (1, iv 0)]) zk_13_5 (nL := 3) rfl rfl rfl rfl rfl (pc' := 6) rfl ?_
  refine T_op zk_13_6 rfl X_ic (pc' := 7) rfl ?_
  refine T_st (L' := [(0, av 1 c 0), (1, iv 0), (2, iv 0)]) zk_13_7 (nL := 3) rfl rfl rfl rfl rfl (pc' := 8) rfl ?_
  refine T_loop1 (fun x2 => ((0 : Int)).toNat) (fun x2 => (0 ≤ x2 ∧ x2 ≤ 0)) (fun x2 => TJ xs (fun σ' => IF (MP c) σ σ' ∧ σ' 1 c 0 13 = n ∧ True) 1 13 8 [(0, av 1 c 0), (1, iv 0), (2, iv x2)] [] _) ?_ 0 (by omega)
  intro x2 hp4 ih3
  refine T_ld zk_13_8 rfl rfl rfl (pc' := 9) rfl ?_
  refine T_ld zk_13_9 rfl rfl rfl (pc' := 10) rfl ?_
  refine G_getX (w := 0) zk_13_10 rfl (vd_1 hc) (fun σ' h => (h.1.2 _ _ _ _ (by unfold MP; omega)).trans s2) (pc' := 13) rfl ?_
  refine T_icmp_ge zk_13_13 (by omega) (by omega) (pc' := 16) rfl (fun h5 => ?_) (fun h6 => ?_)
  ·
    refine T_ld zk_13_70 rfl rfl rfl (pc' := 71) rfl ?_
    refine T_if_eq zk_13_71 (by omega) (pc' := 74) rfl (fun h7 => ?_) (fun h8 => ?_)
    ·
      refine T_ld zk_13_94 rfl rfl rfl (pc' := 95) rfl ?_
      refine T_op (st' := [av 1 c 0, av 1 c 0]) zk_13_95 rfl rfl (pc' := 96) rfl ?_
      refine G_getX (w := n) zk_13_96 rfl (vd_1 hc) (fun σ' h => h.2.1) (pc' := 99) rfl ?_
      refine T_op zk_13_99 rfl X_ic (pc' := 100) rfl ?_
      refine T_op zk_13_100 rfl X_add (pc' := 101) rfl ?_
      refine T_putf (J' := (fun σ' => IF (MP c) σ σ' ∧ σ' 1 c 0 13 = n + 1 ∧ True)) zk_13_101 rfl rfl (vd_1 hc) (fun σ' h => ⟨h.1.up (by simp only [rgP] <;> omega) (by unfold MP; omega), up_eq, trivial⟩) (pc' := 104) rfl ?_
      refine T_ld zk_13_104 rfl rfl rfl (pc' := 105) rfl ?_
      refine G_getX (w := n + 1) zk_13_105 rfl (vd_1 hc) (fun σ' h => h.2.1) (pc' := 108) rfl ?_
      refine T_op zk_13_108 rfl (X_bi (v := 96) (by decide)) (pc' := 110) rfl ?_
      refine G_unkD zk_13_110 (by first | exact Or.inl rfl | exact Or.inr rfl) (by omega) (pc' := 111) rfl (fun y9 hy9 hy9' => ?_)
      refine T_if_ne zk_13_111 (by omega) (pc' := 114) rfl (fun h10 => ?_) (fun h11 => ?_)
      ·
        exact T_vret zk_13_157 rfl (fun σ' h => ⟨rfl, h.1, ⟨h.2.1, trivial⟩⟩)
      ·
        refine T_ld zk_13_114 rfl rfl rfl (pc' := 115) rfl ?_
        refine T_getR (t' := 2) (i' := c) (k' := 0) zk_13_115 rfl rfl rfl (vd_1 hc) (pc' := 118) rfl ?_
        refine T_ld zk_13_118 rfl rfl rfl (pc' := 119) rfl ?_
        refine G_getf (lo := 0) (hi := 9999) zk_13_119 rfl (vd_1 hc) (fun σ' h => h.1.1) (fun _ h => h.2.2.2.2.2.2 (by omega) (by omega)) (pc' := 122) rfl (fun y12 hy12 hy12' => ?_)
        refine T_callv (J' := (fun σ' => IF (MP c) σ σ' ∧ σ' 1 c 0 13 = n + 1 ∧ True)) (r := []) zk_13_122 rfl rfl rfl rfl rfl rfl (Or.inr ⟨_, _, _, _, rfl, (vd_2 hc), rfl⟩) (fun σ' h => (c_38 c y12 hc (by omega) σ' h.1.1 ).le (Nat.le_of_ble_eq_true rfl) (fun v σ2 ⟨h1, h3, h4⟩ => ⟨h1, h.1.tr h3 (fun t i k j h => by unfold MI at h; unfold MP; omega), (h3.2 _ _ _ _ (by unfold MI; omega)).trans (h.2.1), trivial⟩)) (pc' := 125) rfl ?_
        refine T_op zk_13_125 rfl X_ic (pc' := 126) rfl ?_
        refine T_st (L' := [(0, av 1 c 0), (1, iv 0), (2, iv 0)]) zk_13_126 (nL := 3) rfl rfl rfl rfl rfl (pc' := 127) rfl ?_
        refine T_loop1 (fun x14 => ((0 : Int)).toNat) (fun x14 => (0 ≤ x14 ∧ x14 ≤ 0)) (fun x14 => TJ xs (fun σ' => IF (MP c) σ σ' ∧ σ' 1 c 0 13 = n + 1 ∧ True) 1 13 127 [(0, av 1 c 0), (1, iv 0), (2, iv x14)] [] _) ?_ 0 (by omega)
        intro x14 hp16 ih15
        refine T_ld zk_13_127 rfl rfl rfl (pc' := 128) rfl ?_
        refine T_ld zk_13_128 rfl rfl rfl (pc' := 129) rfl ?_
        refine G_getX (w := 0) zk_13_129 rfl (vd_1 hc) (fun σ' h => (h.1.2 _ _ _ _ (by unfold MP; omega)).trans s2) (pc' := 132) rfl ?_
        refine T_icmp_ge zk_13_132 (by omega) (by omega) (pc' := 135) rfl (fun h17 => ?_) (fun h18 => ?_)
        ·
          exact T_vret zk_13_157 rfl (fun σ' h => ⟨rfl, h.1, ⟨h.2.1, trivial⟩⟩)
        · exfalso; omega
    · exfalso; omega
  · exfalso; omega
/-- W$House.build -/
theorem c_24 {xs : Nat × (Nat → Int32)} (p0 : Int) (p1 : Int) (p2 : Int) (p3 : Int) (p4 : Int) (h0 : -2147483648 ≤ p0 ∧ p0 ≤ 2147483647) (h1 : 0 ≤ p1 ∧ p1 ≤ 24) (h2 : -2147483648 ≤ p2 ∧ p2 ≤ 2147483647) (h3 : -2147483648 ≤ p3 ∧ p3 ≤ 2147483647) (h4 : -2147483648 ≤ p4 ∧ p4 ≤ 2147483647) (σ : ZS) (hI : Inv σ)   : CT xs 1 24 [av 25 0 0, iv p0, iv p1, iv p2, iv p3, iv p4] σ (fun v σ' => v = none ∧ IF (MT 25 25 25 25) σ σ' ∧ (True)) := by
  refine G_ct (J := (fun σ' => IF (MT 25 25 25 25) σ σ' ∧ True)) (L := [(0, av 25 0 0), (1, iv p0), (2, iv p1), (3, iv p2), (4, iv p3), (5, iv p4)]) (nL := 6) rfl rfl rfl ⟨IF.rf hI, trivial⟩ ?_
  refine T_ld zk_24_0 rfl rfl rfl (pc' := 1) rfl ?_
  refine T_ld zk_24_1 rfl rfl rfl (pc' := 2) rfl ?_
  refine T_putf (J' := (fun σ' => IF (MT 25 25 25 25) σ σ' ∧ True)) zk_24_2 rfl rfl (vd_25 (by omega) (by omega)) (fun σ' h => ⟨h.1.up (by simp only [rgP] <;> omega) (by unfold MT; omega), trivial⟩) (pc' := 5) rfl ?_
  refine T_ld zk_24_5 rfl rfl rfl (pc' := 6) rfl ?_
  refine T_ld zk_24_6 rfl rfl rfl (pc' := 7) rfl ?_
  refine T_putf (J' := (fun σ' => IF (MT 25 25 25 25) σ σ' ∧ True)) zk_24_7 rfl rfl (vd_25 (by omega) (by omega)) (fun σ' h => ⟨h.1.up (by simp only [rgP] <;> omega) (by unfold MT; omega), trivial⟩) (pc' := 10) rfl ?_
  refine T_ld zk_24_10 rfl rfl rfl (pc' := 11) rfl ?_
  refine T_ld zk_24_11 rfl rfl rfl (pc' := 12) rfl ?_
  refine T_putf (J' := (fun σ' => IF (MT 25 25 25 25) σ σ' ∧ True)) zk_24_12 rfl rfl (vd_25 (by omega) (by omega)) (fun σ' h => ⟨h.1.up (by simp only [rgP] <;> omega) (by unfold MT; omega), trivial⟩) (pc' := 15) rfl ?_
  refine T_ld zk_24_15 rfl rfl rfl (pc' := 16) rfl ?_
  refine T_ld zk_24_16 rfl rfl rfl (pc' := 18) rfl ?_
  refine T_putf (J' := (fun σ' => IF (MT 25 25 25 25) σ σ' ∧ True)) zk_24_18 rfl rfl (vd_25 (by omega) (by omega)) (fun σ' h => ⟨h.1.up (by simp only [rgP] <;> omega) (by unfold MT; omega), trivial⟩) (pc' := 21) rfl ?_
  refine T_ld zk_24_21 rfl rfl rfl (pc' := 22) rfl ?_
  refine T_ld zk_24_22 rfl rfl rfl (pc' := 24) rfl ?_
  refine T_putf (J' := (fun σ' => IF (MT 25 25 25 25) σ σ' ∧ True)) zk_24_24 rfl rfl (vd_25 (by omega) (by omega)) (fun σ' h => ⟨h.1.up (by simp only [rgP] <;> omega) (by unfold MT; omega), trivial⟩) (pc' := 27) rfl ?_
  refine T_ld zk_24_27 rfl rfl rfl (pc' := 28) rfl ?_
  refine T_op zk_24_28 rfl X_ic (pc' := 29) rfl ?_
  refine T_putf (J' := (fun σ' => IF (MT 25 25 25 25) σ σ' ∧ True)) zk_24_29 rfl rfl (vd_25 (by omega) (by omega)) (fun σ' h => ⟨h.1.up (by simp only [rgP] <;> omega) (by unfold MT; omega), trivial⟩) (pc' := 32) rfl ?_
  refine T_ld zk_24_32 rfl rfl rfl (pc' := 33) rfl ?_
  refine T_op zk_24_33 rfl X_ic (pc' := 34) rfl ?_
  refine T_putf (J' := (fun σ' => IF (MT 25 25 25 25) σ σ' ∧ True)) zk_24_34 rfl rfl (vd_25 (by omega) (by omega)) (fun σ' h => ⟨h.1.up (by simp only [rgP] <;> omega) (by unfold MT; omega), trivial⟩) (pc' := 37) rfl ?_
  refine T_ld zk_24_37 rfl rfl rfl (pc' := 38) rfl ?_
  refine T_op zk_24_38 rfl X_ic (pc' := 39) rfl ?_
  refine T_putf (J' := (fun σ' => IF (MT 25 25 25 25) σ σ' ∧ True)) zk_24_39 rfl rfl (vd_25 (by omega) (by omega)) (fun σ' h => ⟨h.1.up (by simp only [rgP] <;> omega) (by unfold MT; omega), trivial⟩) (pc' := 42) rfl ?_
  refine T_ld zk_24_42 rfl rfl rfl (pc' := 43) rfl ?_
  refine T_op zk_24_43 rfl X_ic (pc' := 44) rfl ?_
  refine T_putf (J' := (fun σ' => IF (MT 25 25 25 25) σ σ' ∧ True)) zk_24_44 rfl rfl (vd_25 (by omega) (by omega)) (fun σ' h => ⟨h.1.up (by simp only [rgP] <;> omega) (by unfold MT; omega), trivial⟩) (pc' := 47) rfl ?_
  refine T_ld zk_24_47 rfl rfl rfl (pc' := 48) rfl ?_
  refine T_op zk_24_48 rfl X_ic (pc' := 49) rfl ?_
  refine T_putz (J' := (fun σ' => IF (MT 25 25 25 25) σ σ' ∧ True)) zk_24_49 rfl rfl (by omega) (vd_25 (by omega) (by omega)) (fun σ' h => ⟨h.1.up (by simp only [rgP] <;> omega) (by unfold MT; omega), trivial⟩) (pc' := 52) rfl ?_
  exact T_vret zk_24_52 rfl (fun σ' h => ⟨rfl, h.1, trivial⟩)
/-- W$Boat.launch -/
theorem c_1 {xs : Nat × (Nat → Int32)} (p0 : Int) (p1 : Int) (p2 : Int) (p3 : Int) (p4 : Int) (h0 : 0 ≤ p0 ∧ p0 ≤ 24) (h1 : -2147483648 ≤ p1 ∧ p1 ≤ 2147483647) (h2 : -2147483648 ≤ p2 ∧ p2 ≤ 2147483647) (h3 : -2147483648 ≤ p3 ∧ p3 ≤ 2147483647) (h4 : -2147483648 ≤ p4 ∧ p4 ≤ 2147483647) (σ : ZS) (hI : Inv σ)   : CT xs 1 1 [av 26 0 0, iv p0, iv p1, iv p2, iv p3, iv p4] σ (fun v σ' => v = none ∧ IF (MT 26 26 26 26) σ σ' ∧ (True)) := by
  refine G_ct (J := (fun σ' => IF (MT 26 26 26 26) σ σ' ∧ True)) (L := [(0, av 26 0 0), (1, iv p0), (2, iv p1), (3, iv p2), (4, iv p3), (5, iv p4)]) (nL := 6) rfl rfl rfl ⟨IF.rf hI, trivial⟩ ?_
  refine T_ld zk_1_0 rfl rfl rfl (pc' := 1) rfl ?_
  refine T_ld zk_1_1 rfl rfl rfl (pc' := 2) rfl ?_
  refine T_putf (J' := (fun σ' => IF (MT 26 26 26 26) σ σ' ∧ True)) zk_1_2 rfl rfl (vd_26 (by omega) (by omega)) (fun σ' h => ⟨h.1.up (by simp only [rgP] <;> omega) (by unfold MT; omega), trivial⟩) (pc' := 5) rfl ?_
  refine T_ld zk_1_5 rfl rfl rfl (pc' := 6) rfl ?_
  refine T_ld zk_1_6 rfl rfl rfl (pc' := 7) rfl ?_
  refine T_putf (J' := (fun σ' => IF (MT 26 26 26 26) σ σ' ∧ True)) zk_1_7 rfl rfl (vd_26 (by omega) (by omega)) (fun σ' h => ⟨h.1.up (by simp only [rgP] <;> omega) (by unfold MT; omega), trivial⟩) (pc' := 10) rfl ?_
  refine T_ld zk_1_10 rfl rfl rfl (pc' := 11) rfl ?_
  refine T_ld zk_1_11 rfl rfl rfl (pc' := 12) rfl ?_
  refine T_putf (J' := (fun σ' => IF (MT 26 26 26 26) σ σ' ∧ True)) zk_1_12 rfl rfl (vd_26 (by omega) (by omega)) (fun σ' h => ⟨h.1.up (by simp only [rgP] <;> omega) (by unfold MT; omega), trivial⟩) (pc' := 15) rfl ?_
  refine T_ld zk_1_15 rfl rfl rfl (pc' := 16) rfl ?_
  refine T_ld zk_1_16 rfl rfl rfl (pc' := 18) rfl ?_
  refine T_putf (J' := (fun σ' => IF (MT 26 26 26 26) σ σ' ∧ True)) zk_1_18 rfl rfl (vd_26 (by omega) (by omega)) (fun σ' h => ⟨h.1.up (by simp only [rgP] <;> omega) (by unfold MT; omega), trivial⟩) (pc' := 21) rfl ?_
  refine T_ld zk_1_21 rfl rfl rfl (pc' := 22) rfl ?_
  refine T_ld zk_1_22 rfl rfl rfl (pc' := 24) rfl ?_
  refine T_putf (J' := (fun σ' => IF (MT 26 26 26 26) σ σ' ∧ True)) zk_1_24 rfl rfl (vd_26 (by omega) (by omega)) (fun σ' h => ⟨h.1.up (by simp only [rgP] <;> omega) (by unfold MT; omega), trivial⟩) (pc' := 27) rfl ?_
  refine T_ld zk_1_27 rfl rfl rfl (pc' := 28) rfl ?_
  refine T_op zk_1_28 rfl X_ic (pc' := 29) rfl ?_
  refine T_putf (J' := (fun σ' => IF (MT 26 26 26 26) σ σ' ∧ True)) zk_1_29 rfl rfl (vd_26 (by omega) (by omega)) (fun σ' h => ⟨h.1.up (by simp only [rgP] <;> omega) (by unfold MT; omega), trivial⟩) (pc' := 32) rfl ?_
  refine T_ld zk_1_32 rfl rfl rfl (pc' := 33) rfl ?_
  refine T_op zk_1_33 rfl X_ic (pc' := 34) rfl ?_
  refine T_putf (J' := (fun σ' => IF (MT 26 26 26 26) σ σ' ∧ True)) zk_1_34 rfl rfl (vd_26 (by omega) (by omega)) (fun σ' h => ⟨h.1.up (by simp only [rgP] <;> omega) (by unfold MT; omega), trivial⟩) (pc' := 37) rfl ?_
  refine T_ld zk_1_37 rfl rfl rfl (pc' := 38) rfl ?_
  refine T_op zk_1_38 rfl X_ic (pc' := 39) rfl ?_
  refine T_putf (J' := (fun σ' => IF (MT 26 26 26 26) σ σ' ∧ True)) zk_1_39 rfl rfl (vd_26 (by omega) (by omega)) (fun σ' h => ⟨h.1.up (by simp only [rgP] <;> omega) (by unfold MT; omega), trivial⟩) (pc' := 42) rfl ?_
  refine T_ld zk_1_42 rfl rfl rfl (pc' := 43) rfl ?_
  refine T_op zk_1_43 rfl X_ic (pc' := 44) rfl ?_
  refine T_putf (J' := (fun σ' => IF (MT 26 26 26 26) σ σ' ∧ True)) zk_1_44 rfl rfl (vd_26 (by omega) (by omega)) (fun σ' h => ⟨h.1.up (by simp only [rgP] <;> omega) (by unfold MT; omega), trivial⟩) (pc' := 47) rfl ?_
  refine T_ld zk_1_47 rfl rfl rfl (pc' := 48) rfl ?_
  refine T_op zk_1_48 rfl X_ic (pc' := 49) rfl ?_
  refine T_putf (J' := (fun σ' => IF (MT 26 26 26 26) σ σ' ∧ True)) zk_1_49 rfl rfl (vd_26 (by omega) (by omega)) (fun σ' h => ⟨h.1.up (by simp only [rgP] <;> omega) (by unfold MT; omega), trivial⟩) (pc' := 52) rfl ?_
  exact T_vret zk_1_52 rfl (fun σ' h => ⟨rfl, h.1, trivial⟩)
/-- W$Lagoon.takeLagoon -/
theorem c_39_2 {xs : Nat × (Nat → Int32)}   (σ : ZS) (hI : Inv σ)  (s1 : (∀ j, 0 ≤ j → j < 25 → σ 4 0 0 j = 0)) : CT xs 1 39 [av 2 2 0, av 2 0 0] σ (fun v σ' => v = none ∧ IF (MYl 2) σ σ' ∧ ((∀ j, 0 ≤ j → j < 25 → σ' 4 2 0 j = 0) ∧ True)) := by
  refine G_ct (J := (fun σ' => IF (MYl 2) σ σ' ∧ True)) (L := [(0, av 2 2 0), (1, av 2 0 0)]) (nL := 3) rfl rfl rfl ⟨IF.rf hI, trivial⟩ ?_
  refine T_ld zk_39_0 rfl rfl rfl (pc' := 1) rfl ?_
  refine T_getR (t' := 3) (i' := 0) (k' := 0) zk_39_1 rfl rfl rfl (vd_2 (by omega)) (pc' := 4) rfl ?_
  refine T_op zk_39_4 rfl X_ic (pc' := 5) rfl ?_
  refine T_ld zk_39_5 rfl rfl rfl (pc' := 6) rfl ?_
  refine T_getR (t' := 3) (i' := 2) (k' := 0) zk_39_6 rfl rfl rfl (vd_2 (by omega)) (pc' := 9) rfl ?_
  refine T_op zk_39_9 rfl X_ic (pc' := 10) rfl ?_
  refine T_op zk_39_10 rfl (X_bi (v := 25) (by decide)) (pc' := 12) rfl ?_
  refine G_copy (J' := (fun σ' => IF (MYl 2) σ σ' ∧ True)) (l0 := 25) (l1 := 25) (kk := 12) zk_39_12 rfl rfl (by decide) rfl rfl rfl rfl (vd_3 (by omega)) (vd_3 (by omega)) (by omega) (by omega) (by omega) (by omega) (by omega) (fun σ' h => ⟨h.1.cp (rg_cp0 rfl (fun _ _ h => h) (fun j => h.1.1 3 0 0 j (vd_3 (by omega))) (fun j => h.1.1 3 2 0 j (vd_3 (by omega)))) (fun j => (by unfold MYl; omega)), trivial⟩) (pc' := 15) rfl ?_
  refine T_ld zk_39_15 rfl rfl rfl (pc' := 16) rfl ?_
  refine T_getR (t' := 4) (i' := 0) (k' := 0) zk_39_16 rfl rfl rfl (vd_2 (by omega)) (pc' := 19) rfl ?_
  refine T_op zk_39_19 rfl X_ic (pc' := 20) rfl ?_
  refine T_ld zk_39_20 rfl rfl rfl (pc' := 21) rfl ?_
  refine T_getR (t' := 4) (i' := 2) (k' := 0) zk_39_21 rfl rfl rfl (vd_2 (by omega)) (pc' := 24) rfl ?_
  refine T_op zk_39_24 rfl X_ic (pc' := 25) rfl ?_
  refine T_op zk_39_25 rfl (X_bi (v := 25) (by decide)) (pc' := 27) rfl ?_
  refine G_copy (J' := (fun σ' => IF (MYl 2) σ σ' ∧ (∀ j, 0 ≤ j → j < 25 → σ' 4 2 0 j = 0) ∧ True)) (l0 := 25) (l1 := 25) (kk := 12) zk_39_27 rfl rfl (by decide) rfl rfl rfl rfl (vd_4 (by omega)) (vd_4 (by omega)) (by omega) (by omega) (by omega) (by omega) (by omega) (fun σ' h => ⟨h.1.cp (rg_cp0 rfl (fun _ _ h => h) (fun j => h.1.1 4 0 0 j (vd_4 (by omega))) (fun j => h.1.1 4 2 0 j (vd_4 (by omega)))) (fun j => (by unfold MYl; omega)), upr_cp0 ((fun j a b => (h.1.2 _ _ _ _ (by unfold MYl; omega)).trans (s1 j a b))) (by omega) (by omega), trivial⟩) (pc' := 30) rfl ?_
  refine T_ld zk_39_30 rfl rfl rfl (pc' := 31) rfl ?_
  refine T_getR (t' := 5) (i' := 0) (k' := 0) zk_39_31 rfl rfl rfl (vd_2 (by omega)) (pc' := 34) rfl ?_
  refine T_op zk_39_34 rfl X_ic (pc' := 35) rfl ?_
  refine T_ld zk_39_35 rfl rfl rfl (pc' := 36) rfl ?_
  refine T_getR (t' := 5) (i' := 2) (k' := 0) zk_39_36 rfl rfl rfl (vd_2 (by omega)) (pc' := 39) rfl ?_
  refine T_op zk_39_39 rfl X_ic (pc' := 40) rfl ?_
  refine T_op zk_39_40 rfl (X_bi (v := 25) (by decide)) (pc' := 42) rfl ?_
  refine G_copy (J' := (fun σ' => IF (MYl 2) σ σ' ∧ (∀ j, 0 ≤ j → j < 25 → σ' 4 2 0 j = 0) ∧ True)) (l0 := 25) (l1 := 25) (kk := 12) zk_39_42 rfl rfl (by decide) rfl rfl rfl rfl (vd_5 (by omega)) (vd_5 (by omega)) (by omega) (by omega) (by omega) (by omega) (by omega) (fun σ' h => ⟨h.1.cp (rg_cp0 rfl (fun _ _ h => h) (fun j => h.1.1 5 0 0 j (vd_5 (by omega))) (fun j => h.1.1 5 2 0 j (vd_5 (by omega)))) (fun j => (by unfold MYl; omega)), fun j a b => (congrFun (upr_oth _ _ _ (by omega)) j).trans (h.2.1 j a b), trivial⟩) (pc' := 45) rfl ?_
  refine T_ld zk_39_45 rfl rfl rfl (pc' := 46) rfl ?_
  refine T_getR (t' := 6) (i' := 0) (k' := 0) zk_39_46 rfl rfl rfl (vd_2 (by omega)) (pc' := 49) rfl ?_
  refine T_op zk_39_49 rfl X_ic (pc' := 50) rfl ?_
  refine T_ld zk_39_50 rfl rfl rfl (pc' := 51) rfl ?_
  refine T_getR (t' := 6) (i' := 2) (k' := 0) zk_39_51 rfl rfl rfl (vd_2 (by omega)) (pc' := 54) rfl ?_
  refine T_op zk_39_54 rfl X_ic (pc' := 55) rfl ?_
  refine T_op zk_39_55 rfl (X_bi (v := 25) (by decide)) (pc' := 57) rfl ?_
  refine G_copy (J' := (fun σ' => IF (MYl 2) σ σ' ∧ (∀ j, 0 ≤ j → j < 25 → σ' 4 2 0 j = 0) ∧ True)) (l0 := 25) (l1 := 25) (kk := 12) zk_39_57 rfl rfl (by decide) rfl rfl rfl rfl (vd_6 (by omega)) (vd_6 (by omega)) (by omega) (by omega) (by omega) (by omega) (by omega) (fun σ' h => ⟨h.1.cp (rg_cp0 rfl (fun _ _ h => h) (fun j => h.1.1 6 0 0 j (vd_6 (by omega))) (fun j => h.1.1 6 2 0 j (vd_6 (by omega)))) (fun j => (by unfold MYl; omega)), fun j a b => (congrFun (upr_oth _ _ _ (by omega)) j).trans (h.2.1 j a b), trivial⟩) (pc' := 60) rfl ?_
  refine T_ld zk_39_60 rfl rfl rfl (pc' := 61) rfl ?_
  refine T_getR (t' := 7) (i' := 0) (k' := 0) zk_39_61 rfl rfl rfl (vd_2 (by omega)) (pc' := 64) rfl ?_
  refine T_op zk_39_64 rfl X_ic (pc' := 65) rfl ?_
  refine T_ld zk_39_65 rfl rfl rfl (pc' := 66) rfl ?_
  refine T_getR (t' := 7) (i' := 2) (k' := 0) zk_39_66 rfl rfl rfl (vd_2 (by omega)) (pc' := 69) rfl ?_
  refine T_op zk_39_69 rfl X_ic (pc' := 70) rfl ?_
  refine T_op zk_39_70 rfl (X_bi (v := 40) (by decide)) (pc' := 72) rfl ?_
  refine G_copy (J' := (fun σ' => IF (MYl 2) σ σ' ∧ (∀ j, 0 ≤ j → j < 25 → σ' 4 2 0 j = 0) ∧ True)) (l0 := 40) (l1 := 40) (kk := 12) zk_39_72 rfl rfl (by decide) rfl rfl rfl rfl (vd_7 (by omega)) (vd_7 (by omega)) (by omega) (by omega) (by omega) (by omega) (by omega) (fun σ' h => ⟨h.1.cp (rg_cp0 rfl (fun _ _ h => h) (fun j => h.1.1 7 0 0 j (vd_7 (by omega))) (fun j => h.1.1 7 2 0 j (vd_7 (by omega)))) (fun j => (by unfold MYl; omega)), fun j a b => (congrFun (upr_oth _ _ _ (by omega)) j).trans (h.2.1 j a b), trivial⟩) (pc' := 75) rfl ?_
  refine T_op zk_39_75 rfl X_ic (pc' := 76) rfl ?_
  refine T_st (L' := [(0, av 2 2 0), (1, av 2 0 0), (2, iv 0)]) zk_39_76 (nL := 3) rfl rfl rfl rfl rfl (pc' := 77) rfl ?_
  refine T_loop1 (fun x1 => ((40 - x1 : Int)).toNat) (fun x1 => (0 ≤ x1 ∧ x1 ≤ 40)) (fun x1 => TJ xs (fun σ' => IF (MYl 2) σ σ' ∧ (∀ j, 0 ≤ j → j < 25 → σ' 4 2 0 j = 0) ∧ True) 0 39 77 [(0, av 2 2 0), (1, av 2 0 0), (2, iv x1)] [] _) ?_ 0 (by omega)
  intro x1 hp3 ih2
  refine T_ld zk_39_77 rfl rfl rfl (pc' := 78) rfl ?_
  refine T_op zk_39_78 rfl (X_bi (v := 40) (by decide)) (pc' := 80) rfl ?_
  refine T_icmp_ge zk_39_80 (by omega) (by omega) (pc' := 83) rfl (fun h4 => ?_) (fun h5 => ?_)
  ·
    exact T_vret zk_39_113 rfl (fun σ' h => ⟨rfl, h.1, ⟨h.2.1, trivial⟩⟩)
  ·
    refine T_ld zk_39_83 rfl rfl rfl (pc' := 84) rfl ?_
    refine T_getR (t' := 8) (i' := 2) (k' := 0) zk_39_84 rfl rfl rfl (vd_2 (by omega)) (pc' := 87) rfl ?_
    refine T_ld zk_39_87 rfl rfl rfl (pc' := 88) rfl ?_
    refine T_ld zk_39_88 rfl rfl rfl (pc' := 89) rfl ?_
    refine T_getR (t' := 8) (i' := 0) (k' := 0) zk_39_89 rfl rfl rfl (vd_2 (by omega)) (pc' := 92) rfl ?_
    refine T_ld zk_39_92 rfl rfl rfl (pc' := 93) rfl ?_
    refine G_bald (lo := 0) (hi := 1) (ln := 40) zk_39_93 rfl rfl (vd_8 (by omega)) (by omega) (by omega) (by omega) (fun σ' h => h.1.1) (fun _ h => h.2 (by omega) (by omega)) (pc' := 94) rfl (fun y6 hy6 hy6' => ?_)
    refine G_bast (J' := (fun σ' => IF (MYl 2) σ σ' ∧ (∀ j, 0 ≤ j → j < 25 → σ' 4 2 0 j = 0) ∧ True)) (ln := 40) zk_39_94 rfl rfl (by omega) (vd_8 (by omega)) (by omega) (by omega) (by omega) (fun σ' h => ⟨h.1.up (by simp only [rgP] <;> omega) (by unfold MYl; omega), up_rngn (h.2.1) (by omega), trivial⟩) (pc' := 95) rfl ?_
    refine T_ld zk_39_95 rfl rfl rfl (pc' := 96) rfl ?_
    refine T_getR (t' := 9) (i' := 2) (k' := 0) zk_39_96 rfl rfl rfl (vd_2 (by omega)) (pc' := 99) rfl ?_
    refine T_ld zk_39_99 rfl rfl rfl (pc' := 100) rfl ?_
    refine T_ld zk_39_100 rfl rfl rfl (pc' := 101) rfl ?_
    refine T_getR (t' := 9) (i' := 0) (k' := 0) zk_39_101 rfl rfl rfl (vd_2 (by omega)) (pc' := 104) rfl ?_
    refine T_ld zk_39_104 rfl rfl rfl (pc' := 105) rfl ?_
    refine G_bald (lo := 0) (hi := 1) (ln := 40) zk_39_105 rfl rfl (vd_9 (by omega)) (by omega) (by omega) (by omega) (fun σ' h => h.1.1) (fun _ h => h.2 (by omega) (by omega)) (pc' := 106) rfl (fun y7 hy7 hy7' => ?_)
    refine G_bast (J' := (fun σ' => IF (MYl 2) σ σ' ∧ (∀ j, 0 ≤ j → j < 25 → σ' 4 2 0 j = 0) ∧ True)) (ln := 40) zk_39_106 rfl rfl (by omega) (vd_9 (by omega)) (by omega) (by omega) (by omega) (fun σ' h => ⟨h.1.up (by simp only [rgP] <;> omega) (by unfold MYl; omega), up_rngn (h.2.1) (by omega), trivial⟩) (pc' := 107) rfl ?_
    refine T_iinc (L' := [(0, av 2 2 0), (1, av 2 0 0), (2, iv (x1 + 1))]) zk_39_107 (nL := 3) rfl rfl rfl rfl (pc' := 110) rfl ?_
    refine T_goto zk_39_110 ?_
    exact ih2 (x1 + 1) (by omega) (by omega)
/-- W$Mouths.takeMouths -/
theorem c_64_2 {xs : Nat × (Nat → Int32)}   (σ : ZS) (hI : Inv σ)  (s1 : σ 11 0 0 0 = 0) : CT xs 1 64 [av 11 2 0, av 11 0 0] σ (fun v σ' => v = none ∧ IF (MI 2 11 12 13 13) σ σ' ∧ (σ' 11 2 0 0 = 0 ∧ True)) := by
  refine G_ct (J := (fun σ' => IF (MI 2 11 12 13 13) σ σ' ∧ True)) (L := [(0, av 11 2 0), (1, av 11 0 0)]) (nL := 3) rfl rfl rfl ⟨IF.rf hI, trivial⟩ ?_
  refine T_ld zk_64_0 rfl rfl rfl (pc' := 1) rfl ?_
  refine T_ld zk_64_1 rfl rfl rfl (pc' := 2) rfl ?_
  refine G_getX (w := 0) zk_64_2 rfl (vd_11 (by omega)) (fun σ' h => (h.1.2 _ _ _ _ (by unfold MI; omega)).trans s1) (pc' := 5) rfl ?_
  refine T_putf (J' := (fun σ' => IF (MI 2 11 12 13 13) σ σ' ∧ σ' 11 2 0 0 = 0 ∧ True)) zk_64_5 rfl rfl (vd_11 (by omega)) (fun σ' h => ⟨h.1.up (by simp only [rgP] <;> omega) (by unfold MI; omega), up_eq, trivial⟩) (pc' := 8) rfl ?_
  refine T_op zk_64_8 rfl X_ic (pc' := 9) rfl ?_
  refine T_st (L' := [(0, av 11 2 0), (1, av 11 0 0), (2, iv 0)]) zk_64_9 (nL := 3) rfl rfl rfl rfl rfl (pc' := 10) rfl ?_
  refine T_loop1 (fun x1 => ((0 : Int)).toNat) (fun x1 => (0 ≤ x1 ∧ x1 ≤ 0)) (fun x1 => TJ xs (fun σ' => IF (MI 2 11 12 13 13) σ σ' ∧ σ' 11 2 0 0 = 0 ∧ True) 0 64 10 [(0, av 11 2 0), (1, av 11 0 0), (2, iv x1)] [] _) ?_ 0 (by omega)
  intro x1 hp3 ih2
  refine T_ld zk_64_10 rfl rfl rfl (pc' := 11) rfl ?_
  refine T_ld zk_64_11 rfl rfl rfl (pc' := 12) rfl ?_
  refine G_getX (w := 0) zk_64_12 rfl (vd_11 (by omega)) (fun σ' h => h.2.1) (pc' := 15) rfl ?_
  refine T_icmp_ge zk_64_15 (by omega) (by omega) (pc' := 18) rfl (fun h4 => ?_) (fun h5 => ?_)
  ·
    exact T_vret zk_64_48 rfl (fun σ' h => ⟨rfl, h.1, ⟨h.2.1, trivial⟩⟩)
  · exfalso; omega
/-- W$Tide.takeTide -/
theorem c_72_20 {xs : Nat × (Nat → Int32)}   (σ : ZS) (hI : Inv σ)  (s1 : σ 17 0 0 0 = 0) : CT xs 1 72 [av 17 2 0, av 17 0 0] σ (fun v σ' => v = none ∧ IF (MYt 2 0) σ σ' ∧ (σ' 17 2 0 0 = 0 ∧ True)) := by
  refine G_ct (J := (fun σ' => IF (MYt 2 0) σ σ' ∧ True)) (L := [(0, av 17 2 0), (1, av 17 0 0)]) (nL := 2) rfl rfl rfl ⟨IF.rf hI, trivial⟩ ?_
  refine T_ld zk_72_0 rfl rfl rfl (pc' := 1) rfl ?_
  refine T_ld zk_72_1 rfl rfl rfl (pc' := 2) rfl ?_
  refine G_getX (w := 0) zk_72_2 rfl (vd_17 (by omega) (by omega)) (fun σ' h => (h.1.2 _ _ _ _ (by unfold MYt; omega)).trans s1) (pc' := 5) rfl ?_
  refine T_putf (J' := (fun σ' => IF (MYt 2 0) σ σ' ∧ σ' 17 2 0 0 = 0 ∧ True)) zk_72_5 rfl rfl (vd_17 (by omega) (by omega)) (fun σ' h => ⟨h.1.up (by simp only [rgP] <;> omega) (by unfold MYt; omega), up_eq, trivial⟩) (pc' := 8) rfl ?_
  refine T_ld zk_72_8 rfl rfl rfl (pc' := 9) rfl ?_
  refine T_getR (t' := 18) (i' := 0) (k' := 0) zk_72_9 rfl rfl rfl (vd_17 (by omega) (by omega)) (pc' := 12) rfl ?_
  refine T_op zk_72_12 rfl X_ic (pc' := 13) rfl ?_
  refine T_ld zk_72_13 rfl rfl rfl (pc' := 14) rfl ?_
  refine T_getR (t' := 18) (i' := 2) (k' := 0) zk_72_14 rfl rfl rfl (vd_17 (by omega) (by omega)) (pc' := 17) rfl ?_
  refine T_op zk_72_17 rfl X_ic (pc' := 18) rfl ?_
  refine T_op zk_72_18 rfl (X_bi (v := 96) (by decide)) (pc' := 20) rfl ?_
  refine G_copy (J' := (fun σ' => IF (MYt 2 0) σ σ' ∧ σ' 17 2 0 0 = 0 ∧ True)) (l0 := 96) (l1 := 96) (kk := 12) zk_72_20 rfl rfl (by decide) rfl rfl rfl rfl (vd_18 (by omega) (by omega)) (vd_18 (by omega) (by omega)) (by omega) (by omega) (by omega) (by omega) (by omega) (fun σ' h => ⟨h.1.cp (rg_cp0 rfl (fun _ _ h => h) (fun j => h.1.1 18 0 0 j (vd_18 (by omega) (by omega))) (fun j => h.1.1 18 2 0 j (vd_18 (by omega) (by omega)))) (fun j => (by unfold MYt; omega)), (congrFun (upr_oth _ _ _ (by omega)) _).trans (h.2.1), trivial⟩) (pc' := 23) rfl ?_
  exact T_vret zk_72_23 rfl (fun σ' h => ⟨rfl, h.1, ⟨h.2.1, trivial⟩⟩)
/-- W$Tide.takeTide -/
theorem c_72_21 {xs : Nat × (Nat → Int32)}   (σ : ZS) (hI : Inv σ)  (s1 : σ 17 0 1 0 = 0) : CT xs 1 72 [av 17 2 1, av 17 0 1] σ (fun v σ' => v = none ∧ IF (MYt 2 1) σ σ' ∧ (σ' 17 2 1 0 = 0 ∧ True)) := by
  refine G_ct (J := (fun σ' => IF (MYt 2 1) σ σ' ∧ True)) (L := [(0, av 17 2 1), (1, av 17 0 1)]) (nL := 2) rfl rfl rfl ⟨IF.rf hI, trivial⟩ ?_
  refine T_ld zk_72_0 rfl rfl rfl (pc' := 1) rfl ?_
  refine T_ld zk_72_1 rfl rfl rfl (pc' := 2) rfl ?_
  refine G_getX (w := 0) zk_72_2 rfl (vd_17 (by omega) (by omega)) (fun σ' h => (h.1.2 _ _ _ _ (by unfold MYt; omega)).trans s1) (pc' := 5) rfl ?_
  refine T_putf (J' := (fun σ' => IF (MYt 2 1) σ σ' ∧ σ' 17 2 1 0 = 0 ∧ True)) zk_72_5 rfl rfl (vd_17 (by omega) (by omega)) (fun σ' h => ⟨h.1.up (by simp only [rgP] <;> omega) (by unfold MYt; omega), up_eq, trivial⟩) (pc' := 8) rfl ?_
  refine T_ld zk_72_8 rfl rfl rfl (pc' := 9) rfl ?_
  refine T_getR (t' := 18) (i' := 0) (k' := 1) zk_72_9 rfl rfl rfl (vd_17 (by omega) (by omega)) (pc' := 12) rfl ?_
  refine T_op zk_72_12 rfl X_ic (pc' := 13) rfl ?_
  refine T_ld zk_72_13 rfl rfl rfl (pc' := 14) rfl ?_
  refine T_getR (t' := 18) (i' := 2) (k' := 1) zk_72_14 rfl rfl rfl (vd_17 (by omega) (by omega)) (pc' := 17) rfl ?_
  refine T_op zk_72_17 rfl X_ic (pc' := 18) rfl ?_
  refine T_op zk_72_18 rfl (X_bi (v := 96) (by decide)) (pc' := 20) rfl ?_
  refine G_copy (J' := (fun σ' => IF (MYt 2 1) σ σ' ∧ σ' 17 2 1 0 = 0 ∧ True)) (l0 := 96) (l1 := 96) (kk := 12) zk_72_20 rfl rfl (by decide) rfl rfl rfl rfl (vd_18 (by omega) (by omega)) (vd_18 (by omega) (by omega)) (by omega) (by omega) (by omega) (by omega) (by omega) (fun σ' h => ⟨h.1.cp (rg_cp0 rfl (fun _ _ h => h) (fun j => h.1.1 18 0 1 j (vd_18 (by omega) (by omega))) (fun j => h.1.1 18 2 1 j (vd_18 (by omega) (by omega)))) (fun j => (by unfold MYt; omega)), (congrFun (upr_oth _ _ _ (by omega)) _).trans (h.2.1), trivial⟩) (pc' := 23) rfl ?_
  exact T_vret zk_72_23 rfl (fun σ' h => ⟨rfl, h.1, ⟨h.2.1, trivial⟩⟩)
/-- W$City.takeCity -/
theorem c_22_2 {xs : Nat × (Nat → Int32)}   (σ : ZS) (hI : Inv σ)  (s0 : (∀ j, 0 ≤ j → j < 25 → σ 4 0 0 j = 0)) (s1 : σ 11 0 0 0 = 0) (s2 : σ 17 0 0 0 = 0) (s3 : σ 17 0 1 0 = 0) (s4 : σ 1 0 0 5 = 0) (s5 : σ 1 0 0 6 = 0) (s6 : σ 1 0 0 7 = 0) (s7 : σ 1 0 0 13 = 0) : CT xs 2 22 [av 1 2 0, av 1 0 0] σ (fun v σ' => v = none ∧ IF (MY 2) σ σ' ∧ ((∀ j, 0 ≤ j → j < 25 → σ' 4 2 0 j = 0) ∧ σ' 11 2 0 0 = 0 ∧ σ' 17 2 0 0 = 0 ∧ σ' 17 2 1 0 = 0 ∧ σ' 1 2 0 5 = 0 ∧ σ' 1 2 0 6 = 0 ∧ σ' 1 2 0 7 = 0 ∧ σ' 1 2 0 13 = 0 ∧ True)) := by
  refine G_ct (J := (fun σ' => IF (MY 2) σ σ' ∧ True)) (L := [(0, av 1 2 0), (1, av 1 0 0)]) (nL := 3) rfl rfl rfl ⟨IF.rf hI, trivial⟩ ?_
  refine T_ld zk_22_0 rfl rfl rfl (pc' := 1) rfl ?_
  refine T_getR (t' := 2) (i' := 2) (k' := 0) zk_22_1 rfl rfl rfl (vd_1 (by omega)) (pc' := 4) rfl ?_
  refine T_ld zk_22_4 rfl rfl rfl (pc' := 5) rfl ?_
  refine T_getR (t' := 2) (i' := 0) (k' := 0) zk_22_5 rfl rfl rfl (vd_1 (by omega)) (pc' := 8) rfl ?_
  refine T_callv (J' := (fun σ' => IF (MY 2) σ σ' ∧ (∀ j, 0 ≤ j → j < 25 → σ' 4 2 0 j = 0) ∧ True)) (r := []) zk_22_8 rfl rfl rfl rfl rfl rfl (Or.inr ⟨_, _, _, _, rfl, (vd_2 (by omega)), rfl⟩) (fun σ' h => (c_39_2   σ' h.1.1 (fun j a b => (h.1.2 _ _ _ _ (by unfold MY; omega)).trans (s0 j (by omega) (by omega)))).le (Nat.le_of_ble_eq_true rfl) (fun v σ2 ⟨h1, h3, h4⟩ => ⟨h1, h.1.tr h3 (fun t i k j h => by unfold MYl at h; unfold MY; omega), h4.1, trivial⟩)) (pc' := 11) rfl ?_
  refine T_ld zk_22_11 rfl rfl rfl (pc' := 12) rfl ?_
  refine T_getR (t' := 11) (i' := 2) (k' := 0) zk_22_12 rfl rfl rfl (vd_1 (by omega)) (pc' := 15) rfl ?_
  refine T_ld zk_22_15 rfl rfl rfl (pc' := 16) rfl ?_
  refine T_getR (t' := 11) (i' := 0) (k' := 0) zk_22_16 rfl rfl rfl (vd_1 (by omega)) (pc' := 19) rfl ?_
  refine T_callv (J' := (fun σ' => IF (MY 2) σ σ' ∧ (∀ j, 0 ≤ j → j < 25 → σ' 4 2 0 j = 0) ∧ σ' 11 2 0 0 = 0 ∧ True)) (r := []) zk_22_19 rfl rfl rfl rfl rfl rfl (Or.inr ⟨_, _, _, _, rfl, (vd_11 (by omega)), rfl⟩) (fun σ' h => (c_64_2   σ' h.1.1 ((h.1.2 _ _ _ _ (by unfold MY; omega)).trans s1)).le (Nat.le_of_ble_eq_true rfl) (fun v σ2 ⟨h1, h3, h4⟩ => ⟨h1, h.1.tr h3 (fun t i k j h => by unfold MI at h; unfold MY; omega), fun j a b => (h3.2 _ _ _ _ (by unfold MI; omega)).trans (h.2.1 j a b), h4.1, trivial⟩)) (pc' := 22) rfl ?_
  refine T_ld zk_22_22 rfl rfl rfl (pc' := 23) rfl ?_
  refine T_getR (t' := 17) (i' := 2) (k' := 0) zk_22_23 rfl rfl rfl (vd_1 (by omega)) (pc' := 26) rfl ?_
  refine T_ld zk_22_26 rfl rfl rfl (pc' := 27) rfl ?_
  refine T_getR (t' := 17) (i' := 0) (k' := 0) zk_22_27 rfl rfl rfl (vd_1 (by omega)) (pc' := 30) rfl ?_
  refine T_callv (J' := (fun σ' => IF (MY 2) σ σ' ∧ (∀ j, 0 ≤ j → j < 25 → σ' 4 2 0 j = 0) ∧ σ' 11 2 0 0 = 0 ∧ σ' 17 2 0 0 = 0 ∧ True)) (r := []) zk_22_30 rfl rfl rfl rfl rfl rfl (Or.inr ⟨_, _, _, _, rfl, (vd_17 (by omega) (by omega)), rfl⟩) (fun σ' h => (c_72_20   σ' h.1.1 ((h.1.2 _ _ _ _ (by unfold MY; omega)).trans s2)).le (Nat.le_of_ble_eq_true rfl) (fun v σ2 ⟨h1, h3, h4⟩ => ⟨h1, h.1.tr h3 (fun t i k j h => by unfold MYt at h; unfold MY; omega), fun j a b => (h3.2 _ _ _ _ (by unfold MYt; omega)).trans (h.2.1 j a b), (h3.2 _ _ _ _ (by unfold MYt; omega)).trans (h.2.2.1), h4.1, trivial⟩)) (pc' := 33) rfl ?_
  refine T_ld zk_22_33 rfl rfl rfl (pc' := 34) rfl ?_
  refine T_getR (t' := 17) (i' := 2) (k' := 1) zk_22_34 rfl rfl rfl (vd_1 (by omega)) (pc' := 37) rfl ?_
  refine T_ld zk_22_37 rfl rfl rfl (pc' := 38) rfl ?_
  refine T_getR (t' := 17) (i' := 0) (k' := 1) zk_22_38 rfl rfl rfl (vd_1 (by omega)) (pc' := 41) rfl ?_
  refine T_callv (J' := (fun σ' => IF (MY 2) σ σ' ∧ (∀ j, 0 ≤ j → j < 25 → σ' 4 2 0 j = 0) ∧ σ' 11 2 0 0 = 0 ∧ σ' 17 2 0 0 = 0 ∧ σ' 17 2 1 0 = 0 ∧ True)) (r := []) zk_22_41 rfl rfl rfl rfl rfl rfl (Or.inr ⟨_, _, _, _, rfl, (vd_17 (by omega) (by omega)), rfl⟩) (fun σ' h => (c_72_21   σ' h.1.1 ((h.1.2 _ _ _ _ (by unfold MY; omega)).trans s3)).le (Nat.le_of_ble_eq_true rfl) (fun v σ2 ⟨h1, h3, h4⟩ => ⟨h1, h.1.tr h3 (fun t i k j h => by unfold MYt at h; unfold MY; omega), fun j a b => (h3.2 _ _ _ _ (by unfold MYt; omega)).trans (h.2.1 j a b), (h3.2 _ _ _ _ (by unfold MYt; omega)).trans (h.2.2.1), (h3.2 _ _ _ _ (by unfold MYt; omega)).trans (h.2.2.2.1), h4.1, trivial⟩)) (pc' := 44) rfl ?_
  refine T_ld zk_22_44 rfl rfl rfl (pc' := 45) rfl ?_
  refine T_ld zk_22_45 rfl rfl rfl (pc' := 46) rfl ?_
  refine G_getX (w := 0) zk_22_46 rfl (vd_1 (by omega)) (fun σ' h => (h.1.2 _ _ _ _ (by unfold MY; omega)).trans s4) (pc' := 49) rfl ?_
  refine T_putf (J' := (fun σ' => IF (MY 2) σ σ' ∧ (∀ j, 0 ≤ j → j < 25 → σ' 4 2 0 j = 0) ∧ σ' 11 2 0 0 = 0 ∧ σ' 17 2 0 0 = 0 ∧ σ' 17 2 1 0 = 0 ∧ σ' 1 2 0 5 = 0 ∧ True)) zk_22_49 rfl rfl (vd_1 (by omega)) (fun σ' h => ⟨h.1.up (by simp only [rgP] <;> omega) (by unfold MY; omega), up_rngn (h.2.1) (by omega), (up_ne (by omega)).trans (h.2.2.1), (up_ne (by omega)).trans (h.2.2.2.1), (up_ne (by omega)).trans (h.2.2.2.2.1), up_eq, trivial⟩) (pc' := 52) rfl ?_
  refine T_op zk_22_52 rfl X_ic (pc' := 53) rfl ?_
  refine T_st (L' := [(0, av 1 2 0), (1, av 1 0 0), (2, iv 0)]) zk_22_53 (nL := 3) rfl rfl rfl rfl rfl (pc' := 54) rfl ?_
  refine T_loop1 (fun x5 => ((0 : Int)).toNat) (fun x5 => (0 ≤ x5 ∧ x5 ≤ 0)) (fun x5 => TJ xs (fun σ' => IF (MY 2) σ σ' ∧ (∀ j, 0 ≤ j → j < 25 → σ' 4 2 0 j = 0) ∧ σ' 11 2 0 0 = 0 ∧ σ' 17 2 0 0 = 0 ∧ σ' 17 2 1 0 = 0 ∧ σ' 1 2 0 5 = 0 ∧ True) 1 22 54 [(0, av 1 2 0), (1, av 1 0 0), (2, iv x5)] [] _) ?_ 0 (by omega)
  intro x5 hp7 ih6
  refine T_ld zk_22_54 rfl rfl rfl (pc' := 55) rfl ?_
  refine T_ld zk_22_55 rfl rfl rfl (pc' := 56) rfl ?_
  refine G_getX (w := 0) zk_22_56 rfl (vd_1 (by omega)) (fun σ' h => h.2.2.2.2.2.1) (pc' := 59) rfl ?_
  refine T_icmp_ge zk_22_59 (by omega) (by omega) (pc' := 62) rfl (fun h8 => ?_) (fun h9 => ?_)
  ·
    refine T_ld zk_22_83 rfl rfl rfl (pc' := 84) rfl ?_
    refine T_ld zk_22_84 rfl rfl rfl (pc' := 85) rfl ?_
    refine G_getX (w := 0) zk_22_85 rfl (vd_1 (by omega)) (fun σ' h => (h.1.2 _ _ _ _ (by unfold MY; omega)).trans s5) (pc' := 88) rfl ?_
    refine T_putf (J' := (fun σ' => IF (MY 2) σ σ' ∧ (∀ j, 0 ≤ j → j < 25 → σ' 4 2 0 j = 0) ∧ σ' 11 2 0 0 = 0 ∧ σ' 17 2 0 0 = 0 ∧ σ' 17 2 1 0 = 0 ∧ σ' 1 2 0 5 = 0 ∧ σ' 1 2 0 6 = 0 ∧ True)) zk_22_88 rfl rfl (vd_1 (by omega)) (fun σ' h => ⟨h.1.up (by simp only [rgP] <;> omega) (by unfold MY; omega), up_rngn (h.2.1) (by omega), (up_ne (by omega)).trans (h.2.2.1), (up_ne (by omega)).trans (h.2.2.2.1), (up_ne (by omega)).trans (h.2.2.2.2.1), (up_ne (by omega)).trans (h.2.2.2.2.2.1), up_eq, trivial⟩) (pc' := 91) rfl ?_
    refine T_op zk_22_91 rfl X_ic (pc' := 92) rfl ?_
    refine T_st (L' := [(0, av 1 2 0), (1, av 1 0 0), (2, iv 0)]) zk_22_92 (nL := 3) rfl rfl rfl rfl rfl (pc' := 93) rfl ?_
    refine T_loop1 (fun x10 => ((0 : Int)).toNat) (fun x10 => (0 ≤ x10 ∧ x10 ≤ 0)) (fun x10 => TJ xs (fun σ' => IF (MY 2) σ σ' ∧ (∀ j, 0 ≤ j → j < 25 → σ' 4 2 0 j = 0) ∧ σ' 11 2 0 0 = 0 ∧ σ' 17 2 0 0 = 0 ∧ σ' 17 2 1 0 = 0 ∧ σ' 1 2 0 5 = 0 ∧ σ' 1 2 0 6 = 0 ∧ True) 1 22 93 [(0, av 1 2 0), (1, av 1 0 0), (2, iv x10)] [] _) ?_ 0 (by omega)
    intro x10 hp12 ih11
    refine T_ld zk_22_93 rfl rfl rfl (pc' := 94) rfl ?_
    refine T_ld zk_22_94 rfl rfl rfl (pc' := 95) rfl ?_
    refine G_getX (w := 0) zk_22_95 rfl (vd_1 (by omega)) (fun σ' h => h.2.2.2.2.2.2.1) (pc' := 98) rfl ?_
    refine T_icmp_ge zk_22_98 (by omega) (by omega) (pc' := 101) rfl (fun h13 => ?_) (fun h14 => ?_)
    ·
      refine T_ld zk_22_122 rfl rfl rfl (pc' := 123) rfl ?_
      refine T_ld zk_22_123 rfl rfl rfl (pc' := 124) rfl ?_
      refine G_getX (w := 0) zk_22_124 rfl (vd_1 (by omega)) (fun σ' h => (h.1.2 _ _ _ _ (by unfold MY; omega)).trans s6) (pc' := 127) rfl ?_
      refine T_putf (J' := (fun σ' => IF (MY 2) σ σ' ∧ (∀ j, 0 ≤ j → j < 25 → σ' 4 2 0 j = 0) ∧ σ' 11 2 0 0 = 0 ∧ σ' 17 2 0 0 = 0 ∧ σ' 17 2 1 0 = 0 ∧ σ' 1 2 0 5 = 0 ∧ σ' 1 2 0 6 = 0 ∧ σ' 1 2 0 7 = 0 ∧ True)) zk_22_127 rfl rfl (vd_1 (by omega)) (fun σ' h => ⟨h.1.up (by simp only [rgP] <;> omega) (by unfold MY; omega), up_rngn (h.2.1) (by omega), (up_ne (by omega)).trans (h.2.2.1), (up_ne (by omega)).trans (h.2.2.2.1), (up_ne (by omega)).trans (h.2.2.2.2.1), (up_ne (by omega)).trans (h.2.2.2.2.2.1), (up_ne (by omega)).trans (h.2.2.2.2.2.2.1), up_eq, trivial⟩) (pc' := 130) rfl ?_
      refine T_op zk_22_130 rfl X_ic (pc' := 131) rfl ?_
      refine T_st (L' := [(0, av 1 2 0), (1, av 1 0 0), (2, iv 0)]) zk_22_131 (nL := 3) rfl rfl rfl rfl rfl (pc' := 132) rfl ?_
      refine T_loop1 (fun x15 => ((0 : Int)).toNat) (fun x15 => (0 ≤ x15 ∧ x15 ≤ 0)) (fun x15 => TJ xs (fun σ' => IF (MY 2) σ σ' ∧ (∀ j, 0 ≤ j → j < 25 → σ' 4 2 0 j = 0) ∧ σ' 11 2 0 0 = 0 ∧ σ' 17 2 0 0 = 0 ∧ σ' 17 2 1 0 = 0 ∧ σ' 1 2 0 5 = 0 ∧ σ' 1 2 0 6 = 0 ∧ σ' 1 2 0 7 = 0 ∧ True) 1 22 132 [(0, av 1 2 0), (1, av 1 0 0), (2, iv x15)] [] _) ?_ 0 (by omega)
      intro x15 hp17 ih16
      refine T_ld zk_22_132 rfl rfl rfl (pc' := 133) rfl ?_
      refine T_ld zk_22_133 rfl rfl rfl (pc' := 134) rfl ?_
      refine G_getX (w := 0) zk_22_134 rfl (vd_1 (by omega)) (fun σ' h => h.2.2.2.2.2.2.2.1) (pc' := 137) rfl ?_
      refine T_icmp_ge zk_22_137 (by omega) (by omega) (pc' := 140) rfl (fun h18 => ?_) (fun h19 => ?_)
      ·
        refine T_ld zk_22_161 rfl rfl rfl (pc' := 162) rfl ?_
        refine T_ld zk_22_162 rfl rfl rfl (pc' := 163) rfl ?_
        refine G_getf (lo := 0) (hi := 99) zk_22_163 rfl (vd_1 (by omega)) (fun σ' h => h.1.1) (fun _ h => h.2.2.2.2.1 (by omega) (by omega)) (pc' := 166) rfl (fun y20 hy20 hy20' => ?_)
        refine T_putf (J' := (fun σ' => IF (MY 2) σ σ' ∧ (∀ j, 0 ≤ j → j < 25 → σ' 4 2 0 j = 0) ∧ σ' 11 2 0 0 = 0 ∧ σ' 17 2 0 0 = 0 ∧ σ' 17 2 1 0 = 0 ∧ σ' 1 2 0 5 = 0 ∧ σ' 1 2 0 6 = 0 ∧ σ' 1 2 0 7 = 0 ∧ σ' 1 2 0 10 = y20 ∧ True)) zk_22_166 rfl rfl (vd_1 (by omega)) (fun σ' h => ⟨h.1.up (by simp only [rgP] <;> omega) (by unfold MY; omega), up_rngn (h.2.1) (by omega), (up_ne (by omega)).trans (h.2.2.1), (up_ne (by omega)).trans (h.2.2.2.1), (up_ne (by omega)).trans (h.2.2.2.2.1), (up_ne (by omega)).trans (h.2.2.2.2.2.1), (up_ne (by omega)).trans (h.2.2.2.2.2.2.1), (up_ne (by omega)).trans (h.2.2.2.2.2.2.2.1), up_eq, trivial⟩) (pc' := 169) rfl ?_
        refine T_ld zk_22_169 rfl rfl rfl (pc' := 170) rfl ?_
        refine T_ld zk_22_170 rfl rfl rfl (pc' := 171) rfl ?_
        refine G_getf (lo := 1) (hi := 9) zk_22_171 rfl (vd_1 (by omega)) (fun σ' h => h.1.1) (fun _ h => h.2.2.2.2.2.1 (by omega) (by omega)) (pc' := 174) rfl (fun y21 hy21 hy21' => ?_)
        refine T_putf (J' := (fun σ' => IF (MY 2) σ σ' ∧ (∀ j, 0 ≤ j → j < 25 → σ' 4 2 0 j = 0) ∧ σ' 11 2 0 0 = 0 ∧ σ' 17 2 0 0 = 0 ∧ σ' 17 2 1 0 = 0 ∧ σ' 1 2 0 5 = 0 ∧ σ' 1 2 0 6 = 0 ∧ σ' 1 2 0 7 = 0 ∧ σ' 1 2 0 10 = y20 ∧ σ' 1 2 0 11 = y21 ∧ True)) zk_22_174 rfl rfl (vd_1 (by omega)) (fun σ' h => ⟨h.1.up (by simp only [rgP] <;> omega) (by unfold MY; omega), up_rngn (h.2.1) (by omega), (up_ne (by omega)).trans (h.2.2.1), (up_ne (by omega)).trans (h.2.2.2.1), (up_ne (by omega)).trans (h.2.2.2.2.1), (up_ne (by omega)).trans (h.2.2.2.2.2.1), (up_ne (by omega)).trans (h.2.2.2.2.2.2.1), (up_ne (by omega)).trans (h.2.2.2.2.2.2.2.1), (up_ne (by omega)).trans (h.2.2.2.2.2.2.2.2.1), up_eq, trivial⟩) (pc' := 177) rfl ?_
        refine T_ld zk_22_177 rfl rfl rfl (pc' := 178) rfl ?_
        refine T_ld zk_22_178 rfl rfl rfl (pc' := 179) rfl ?_
        refine G_getf (lo := 0) (hi := 9999) zk_22_179 rfl (vd_1 (by omega)) (fun σ' h => h.1.1) (fun _ h => h.2.2.2.2.2.2 (by omega) (by omega)) (pc' := 182) rfl (fun y22 hy22 hy22' => ?_)
        refine T_putf (J' := (fun σ' => IF (MY 2) σ σ' ∧ (∀ j, 0 ≤ j → j < 25 → σ' 4 2 0 j = 0) ∧ σ' 11 2 0 0 = 0 ∧ σ' 17 2 0 0 = 0 ∧ σ' 17 2 1 0 = 0 ∧ σ' 1 2 0 5 = 0 ∧ σ' 1 2 0 6 = 0 ∧ σ' 1 2 0 7 = 0 ∧ σ' 1 2 0 10 = y20 ∧ σ' 1 2 0 11 = y21 ∧ σ' 1 2 0 12 = y22 ∧ True)) zk_22_182 rfl rfl (vd_1 (by omega)) (fun σ' h => ⟨h.1.up (by simp only [rgP] <;> omega) (by unfold MY; omega), up_rngn (h.2.1) (by omega), (up_ne (by omega)).trans (h.2.2.1), (up_ne (by omega)).trans (h.2.2.2.1), (up_ne (by omega)).trans (h.2.2.2.2.1), (up_ne (by omega)).trans (h.2.2.2.2.2.1), (up_ne (by omega)).trans (h.2.2.2.2.2.2.1), (up_ne (by omega)).trans (h.2.2.2.2.2.2.2.1), (up_ne (by omega)).trans (h.2.2.2.2.2.2.2.2.1), (up_ne (by omega)).trans (h.2.2.2.2.2.2.2.2.2.1), up_eq, trivial⟩) (pc' := 185) rfl ?_
        refine T_ld zk_22_185 rfl rfl rfl (pc' := 186) rfl ?_
        refine T_ld zk_22_186 rfl rfl rfl (pc' := 187) rfl ?_
        refine G_getX (w := 0) zk_22_187 rfl (vd_1 (by omega)) (fun σ' h => (h.1.2 _ _ _ _ (by unfold MY; omega)).trans s7) (pc' := 190) rfl ?_
        refine T_putf (J' := (fun σ' => IF (MY 2) σ σ' ∧ (∀ j, 0 ≤ j → j < 25 → σ' 4 2 0 j = 0) ∧ σ' 11 2 0 0 = 0 ∧ σ' 17 2 0 0 = 0 ∧ σ' 17 2 1 0 = 0 ∧ σ' 1 2 0 5 = 0 ∧ σ' 1 2 0 6 = 0 ∧ σ' 1 2 0 7 = 0 ∧ σ' 1 2 0 10 = y20 ∧ σ' 1 2 0 11 = y21 ∧ σ' 1 2 0 12 = y22 ∧ σ' 1 2 0 13 = 0 ∧ True)) zk_22_190 rfl rfl (vd_1 (by omega)) (fun σ' h => ⟨h.1.up (by simp only [rgP] <;> omega) (by unfold MY; omega), up_rngn (h.2.1) (by omega), (up_ne (by omega)).trans (h.2.2.1), (up_ne (by omega)).trans (h.2.2.2.1), (up_ne (by omega)).trans (h.2.2.2.2.1), (up_ne (by omega)).trans (h.2.2.2.2.2.1), (up_ne (by omega)).trans (h.2.2.2.2.2.2.1), (up_ne (by omega)).trans (h.2.2.2.2.2.2.2.1), (up_ne (by omega)).trans (h.2.2.2.2.2.2.2.2.1), (up_ne (by omega)).trans (h.2.2.2.2.2.2.2.2.2.1), (up_ne (by omega)).trans (h.2.2.2.2.2.2.2.2.2.2.1), up_eq, trivial⟩) (pc' := 193) rfl ?_
        refine T_ld zk_22_193 rfl rfl rfl (pc' := 194) rfl ?_
        refine T_ld zk_22_194 rfl rfl rfl (pc' := 195) rfl ?_
        refine G_getf (lo := -2147483648) (hi := 2147483647) zk_22_195 rfl (vd_1 (by omega)) (fun σ' h => h.1.1) (fun _ h => h.1) (pc' := 198) rfl (fun y23 hy23 hy23' => ?_)
        refine T_putf (J' := (fun σ' => IF (MY 2) σ σ' ∧ (∀ j, 0 ≤ j → j < 25 → σ' 4 2 0 j = 0) ∧ σ' 11 2 0 0 = 0 ∧ σ' 17 2 0 0 = 0 ∧ σ' 17 2 1 0 = 0 ∧ σ' 1 2 0 5 = 0 ∧ σ' 1 2 0 6 = 0 ∧ σ' 1 2 0 7 = 0 ∧ σ' 1 2 0 10 = y20 ∧ σ' 1 2 0 11 = y21 ∧ σ' 1 2 0 12 = y22 ∧ σ' 1 2 0 13 = 0 ∧ σ' 1 2 0 14 = y23 ∧ True)) zk_22_198 rfl rfl (vd_1 (by omega)) (fun σ' h => ⟨h.1.up (by simp only [rgP] <;> omega) (by unfold MY; omega), up_rngn (h.2.1) (by omega), (up_ne (by omega)).trans (h.2.2.1), (up_ne (by omega)).trans (h.2.2.2.1), (up_ne (by omega)).trans (h.2.2.2.2.1), (up_ne (by omega)).trans (h.2.2.2.2.2.1), (up_ne (by omega)).trans (h.2.2.2.2.2.2.1), (up_ne (by omega)).trans (h.2.2.2.2.2.2.2.1), (up_ne (by omega)).trans (h.2.2.2.2.2.2.2.2.1), (up_ne (by omega)).trans (h.2.2.2.2.2.2.2.2.2.1), (up_ne (by omega)).trans (h.2.2.2.2.2.2.2.2.2.2.1), (up_ne (by omega)).trans (h.2.2.2.2.2.2.2.2.2.2.2.1), up_eq, trivial⟩) (pc' := 201) rfl ?_
        refine T_ld zk_22_201 rfl rfl rfl (pc' := 202) rfl ?_
        refine T_ld zk_22_202 rfl rfl rfl (pc' := 203) rfl ?_
        refine G_getf (lo := -2147483648) (hi := 2147483647) zk_22_203 rfl (vd_1 (by omega)) (fun σ' h => h.1.1) (fun _ h => h.1) (pc' := 206) rfl (fun y24 hy24 hy24' => ?_)
        refine T_putf (J' := (fun σ' => IF (MY 2) σ σ' ∧ (∀ j, 0 ≤ j → j < 25 → σ' 4 2 0 j = 0) ∧ σ' 11 2 0 0 = 0 ∧ σ' 17 2 0 0 = 0 ∧ σ' 17 2 1 0 = 0 ∧ σ' 1 2 0 5 = 0 ∧ σ' 1 2 0 6 = 0 ∧ σ' 1 2 0 7 = 0 ∧ σ' 1 2 0 10 = y20 ∧ σ' 1 2 0 11 = y21 ∧ σ' 1 2 0 12 = y22 ∧ σ' 1 2 0 13 = 0 ∧ σ' 1 2 0 14 = y23 ∧ σ' 1 2 0 15 = y24 ∧ True)) zk_22_206 rfl rfl (vd_1 (by omega)) (fun σ' h => ⟨h.1.up (by simp only [rgP] <;> omega) (by unfold MY; omega), up_rngn (h.2.1) (by omega), (up_ne (by omega)).trans (h.2.2.1), (up_ne (by omega)).trans (h.2.2.2.1), (up_ne (by omega)).trans (h.2.2.2.2.1), (up_ne (by omega)).trans (h.2.2.2.2.2.1), (up_ne (by omega)).trans (h.2.2.2.2.2.2.1), (up_ne (by omega)).trans (h.2.2.2.2.2.2.2.1), (up_ne (by omega)).trans (h.2.2.2.2.2.2.2.2.1), (up_ne (by omega)).trans (h.2.2.2.2.2.2.2.2.2.1), (up_ne (by omega)).trans (h.2.2.2.2.2.2.2.2.2.2.1), (up_ne (by omega)).trans (h.2.2.2.2.2.2.2.2.2.2.2.1), (up_ne (by omega)).trans (h.2.2.2.2.2.2.2.2.2.2.2.2.1), up_eq, trivial⟩) (pc' := 209) rfl ?_
        refine T_ld zk_22_209 rfl rfl rfl (pc' := 210) rfl ?_
        refine T_ld zk_22_210 rfl rfl rfl (pc' := 211) rfl ?_
        refine G_getf (lo := -2147483648) (hi := 2147483647) zk_22_211 rfl (vd_1 (by omega)) (fun σ' h => h.1.1) (fun _ h => h.1) (pc' := 214) rfl (fun y25 hy25 hy25' => ?_)
        refine T_putf (J' := (fun σ' => IF (MY 2) σ σ' ∧ (∀ j, 0 ≤ j → j < 25 → σ' 4 2 0 j = 0) ∧ σ' 11 2 0 0 = 0 ∧ σ' 17 2 0 0 = 0 ∧ σ' 17 2 1 0 = 0 ∧ σ' 1 2 0 5 = 0 ∧ σ' 1 2 0 6 = 0 ∧ σ' 1 2 0 7 = 0 ∧ σ' 1 2 0 10 = y20 ∧ σ' 1 2 0 11 = y21 ∧ σ' 1 2 0 12 = y22 ∧ σ' 1 2 0 13 = 0 ∧ σ' 1 2 0 14 = y23 ∧ σ' 1 2 0 15 = y24 ∧ σ' 1 2 0 16 = y25 ∧ True)) zk_22_214 rfl rfl (vd_1 (by omega)) (fun σ' h => ⟨h.1.up (by simp only [rgP] <;> omega) (by unfold MY; omega), up_rngn (h.2.1) (by omega), (up_ne (by omega)).trans (h.2.2.1), (up_ne (by omega)).trans (h.2.2.2.1), (up_ne (by omega)).trans (h.2.2.2.2.1), (up_ne (by omega)).trans (h.2.2.2.2.2.1), (up_ne (by omega)).trans (h.2.2.2.2.2.2.1), (up_ne (by omega)).trans (h.2.2.2.2.2.2.2.1), (up_ne (by omega)).trans (h.2.2.2.2.2.2.2.2.1), (up_ne (by omega)).trans (h.2.2.2.2.2.2.2.2.2.1), (up_ne (by omega)).trans (h.2.2.2.2.2.2.2.2.2.2.1), (up_ne (by omega)).trans (h.2.2.2.2.2.2.2.2.2.2.2.1), (up_ne (by omega)).trans (h.2.2.2.2.2.2.2.2.2.2.2.2.1), (up_ne (by omega)).trans (h.2.2.2.2.2.2.2.2.2.2.2.2.2.1), up_eq, trivial⟩) (pc' := 217) rfl ?_
        exact T_vret zk_22_217 rfl (fun σ' h => ⟨rfl, h.1, ⟨h.2.1, h.2.2.1, h.2.2.2.1, h.2.2.2.2.1, h.2.2.2.2.2.1, h.2.2.2.2.2.2.1, h.2.2.2.2.2.2.2.1, h.2.2.2.2.2.2.2.2.2.2.2.1, trivial⟩⟩)
      · exfalso; omega
    · exfalso; omega
  · exfalso; omega
/-- W$Lagoon.takeLagoon -/
theorem c_39_1 {xs : Nat × (Nat → Int32)}   (σ : ZS) (hI : Inv σ)  (s1 : (∀ j, 0 ≤ j → j < 25 → σ 4 0 0 j = 0)) : CT xs 1 39 [av 2 1 0, av 2 0 0] σ (fun v σ' => v = none ∧ IF (MYl 1) σ σ' ∧ ((∀ j, 0 ≤ j → j < 25 → σ' 4 1 0 j = 0) ∧ True)) := by
  refine G_ct (J := (fun σ' => IF (MYl 1) σ σ' ∧ True)) (L := [(0, av 2 1 0), (1, av 2 0 0)]) (nL := 3) rfl rfl rfl ⟨IF.rf hI, trivial⟩ ?_
  refine T_ld zk_39_0 rfl rfl rfl (pc' := 1) rfl ?_
  refine T_getR (t' := 3) (i' := 0) (k' := 0) zk_39_1 rfl rfl rfl (vd_2 (by omega)) (pc' := 4) rfl ?_
  refine T_op zk_39_4 rfl X_ic (pc' := 5) rfl ?_
  refine T_ld zk_39_5 rfl rfl rfl (pc' := 6) rfl ?_
  refine T_getR (t' := 3) (i' := 1) (k' := 0) zk_39_6 rfl rfl rfl (vd_2 (by omega)) (pc' := 9) rfl ?_
  refine T_op zk_39_9 rfl X_ic (pc' := 10) rfl ?_
  refine T_op zk_39_10 rfl (X_bi (v := 25) (by decide)) (pc' := 12) rfl ?_
  refine G_copy (J' := (fun σ' => IF (MYl 1) σ σ' ∧ True)) (l0 := 25) (l1 := 25) (kk := 12) zk_39_12 rfl rfl (by decide) rfl rfl rfl rfl (vd_3 (by omega)) (vd_3 (by omega)) (by omega) (by omega) (by omega) (by omega) (by omega) (fun σ' h => ⟨h.1.cp (rg_cp0 rfl (fun _ _ h => h) (fun j => h.1.1 3 0 0 j (vd_3 (by omega))) (fun j => h.1.1 3 1 0 j (vd_3 (by omega)))) (fun j => (by unfold MYl; omega)), trivial⟩) (pc' := 15) rfl ?_
  refine T_ld zk_39_15 rfl rfl rfl (pc' := 16) rfl ?_
  refine T_getR (t' := 4) (i' := 0) (k' := 0) zk_39_16 rfl rfl rfl (vd_2 (by omega)) (pc' := 19) rfl ?_
  refine T_op zk_39_19 rfl X_ic (pc' := 20) rfl ?_
  refine T_ld zk_39_20 rfl rfl rfl (pc' := 21) rfl ?_
  refine T_getR (t' := 4) (i' := 1) (k' := 0) zk_39_21 rfl rfl rfl (vd_2 (by omega)) (pc' := 24) rfl ?_
  refine T_op zk_39_24 rfl X_ic (pc' := 25) rfl ?_
  refine T_op zk_39_25 rfl (X_bi (v := 25) (by decide)) (pc' := 27) rfl ?_
  refine G_copy (J' := (fun σ' => IF (MYl 1) σ σ' ∧ (∀ j, 0 ≤ j → j < 25 → σ' 4 1 0 j = 0) ∧ True)) (l0 := 25) (l1 := 25) (kk := 12) zk_39_27 rfl rfl (by decide) rfl rfl rfl rfl (vd_4 (by omega)) (vd_4 (by omega)) (by omega) (by omega) (by omega) (by omega) (by omega) (fun σ' h => ⟨h.1.cp (rg_cp0 rfl (fun _ _ h => h) (fun j => h.1.1 4 0 0 j (vd_4 (by omega))) (fun j => h.1.1 4 1 0 j (vd_4 (by omega)))) (fun j => (by unfold MYl; omega)), upr_cp0 ((fun j a b => (h.1.2 _ _ _ _ (by unfold MYl; omega)).trans (s1 j a b))) (by omega) (by omega), trivial⟩) (pc' := 30) rfl ?_
  refine T_ld zk_39_30 rfl rfl rfl (pc' := 31) rfl ?_
  refine T_getR (t' := 5) (i' := 0) (k' := 0) zk_39_31 rfl rfl rfl (vd_2 (by omega)) (pc' := 34) rfl ?_
  refine T_op zk_39_34 rfl X_ic (pc' := 35) rfl ?_
  refine T_ld zk_39_35 rfl rfl rfl (pc' := 36) rfl ?_
  refine T_getR (t' := 5) (i' := 1) (k' := 0) zk_39_36 rfl rfl rfl (vd_2 (by omega)) (pc' := 39) rfl ?_
  refine T_op zk_39_39 rfl X_ic (pc' := 40) rfl ?_
  refine T_op zk_39_40 rfl (X_bi (v := 25) (by decide)) (pc' := 42) rfl ?_
  refine G_copy (J' := (fun σ' => IF (MYl 1) σ σ' ∧ (∀ j, 0 ≤ j → j < 25 → σ' 4 1 0 j = 0) ∧ True)) (l0 := 25) (l1 := 25) (kk := 12) zk_39_42 rfl rfl (by decide) rfl rfl rfl rfl (vd_5 (by omega)) (vd_5 (by omega)) (by omega) (by omega) (by omega) (by omega) (by omega) (fun σ' h => ⟨h.1.cp (rg_cp0 rfl (fun _ _ h => h) (fun j => h.1.1 5 0 0 j (vd_5 (by omega))) (fun j => h.1.1 5 1 0 j (vd_5 (by omega)))) (fun j => (by unfold MYl; omega)), fun j a b => (congrFun (upr_oth _ _ _ (by omega)) j).trans (h.2.1 j a b), trivial⟩) (pc' := 45) rfl ?_
  refine T_ld zk_39_45 rfl rfl rfl (pc' := 46) rfl ?_
  refine T_getR (t' := 6) (i' := 0) (k' := 0) zk_39_46 rfl rfl rfl (vd_2 (by omega)) (pc' := 49) rfl ?_
  refine T_op zk_39_49 rfl X_ic (pc' := 50) rfl ?_
  refine T_ld zk_39_50 rfl rfl rfl (pc' := 51) rfl ?_
  refine T_getR (t' := 6) (i' := 1) (k' := 0) zk_39_51 rfl rfl rfl (vd_2 (by omega)) (pc' := 54) rfl ?_
  refine T_op zk_39_54 rfl X_ic (pc' := 55) rfl ?_
  refine T_op zk_39_55 rfl (X_bi (v := 25) (by decide)) (pc' := 57) rfl ?_
  refine G_copy (J' := (fun σ' => IF (MYl 1) σ σ' ∧ (∀ j, 0 ≤ j → j < 25 → σ' 4 1 0 j = 0) ∧ True)) (l0 := 25) (l1 := 25) (kk := 12) zk_39_57 rfl rfl (by decide) rfl rfl rfl rfl (vd_6 (by omega)) (vd_6 (by omega)) (by omega) (by omega) (by omega) (by omega) (by omega) (fun σ' h => ⟨h.1.cp (rg_cp0 rfl (fun _ _ h => h) (fun j => h.1.1 6 0 0 j (vd_6 (by omega))) (fun j => h.1.1 6 1 0 j (vd_6 (by omega)))) (fun j => (by unfold MYl; omega)), fun j a b => (congrFun (upr_oth _ _ _ (by omega)) j).trans (h.2.1 j a b), trivial⟩) (pc' := 60) rfl ?_
  refine T_ld zk_39_60 rfl rfl rfl (pc' := 61) rfl ?_
  refine T_getR (t' := 7) (i' := 0) (k' := 0) zk_39_61 rfl rfl rfl (vd_2 (by omega)) (pc' := 64) rfl ?_
  refine T_op zk_39_64 rfl X_ic (pc' := 65) rfl ?_
  refine T_ld zk_39_65 rfl rfl rfl (pc' := 66) rfl ?_
  refine T_getR (t' := 7) (i' := 1) (k' := 0) zk_39_66 rfl rfl rfl (vd_2 (by omega)) (pc' := 69) rfl ?_
  refine T_op zk_39_69 rfl X_ic (pc' := 70) rfl ?_
  refine T_op zk_39_70 rfl (X_bi (v := 40) (by decide)) (pc' := 72) rfl ?_
  refine G_copy (J' := (fun σ' => IF (MYl 1) σ σ' ∧ (∀ j, 0 ≤ j → j < 25 → σ' 4 1 0 j = 0) ∧ True)) (l0 := 40) (l1 := 40) (kk := 12) zk_39_72 rfl rfl (by decide) rfl rfl rfl rfl (vd_7 (by omega)) (vd_7 (by omega)) (by omega) (by omega) (by omega) (by omega) (by omega) (fun σ' h => ⟨h.1.cp (rg_cp0 rfl (fun _ _ h => h) (fun j => h.1.1 7 0 0 j (vd_7 (by omega))) (fun j => h.1.1 7 1 0 j (vd_7 (by omega)))) (fun j => (by unfold MYl; omega)), fun j a b => (congrFun (upr_oth _ _ _ (by omega)) j).trans (h.2.1 j a b), trivial⟩) (pc' := 75) rfl ?_
  refine T_op zk_39_75 rfl X_ic (pc' := 76) rfl ?_
  refine T_st (L' := [(0, av 2 1 0), (1, av 2 0 0), (2, iv 0)]) zk_39_76 (nL := 3) rfl rfl rfl rfl rfl (pc' := 77) rfl ?_
  refine T_loop1 (fun x1 => ((40 - x1 : Int)).toNat) (fun x1 => (0 ≤ x1 ∧ x1 ≤ 40)) (fun x1 => TJ xs (fun σ' => IF (MYl 1) σ σ' ∧ (∀ j, 0 ≤ j → j < 25 → σ' 4 1 0 j = 0) ∧ True) 0 39 77 [(0, av 2 1 0), (1, av 2 0 0), (2, iv x1)] [] _) ?_ 0 (by omega)
  intro x1 hp3 ih2
  refine T_ld zk_39_77 rfl rfl rfl (pc' := 78) rfl ?_
  refine T_op zk_39_78 rfl (X_bi (v := 40) (by decide)) (pc' := 80) rfl ?_
  refine T_icmp_ge zk_39_80 (by omega) (by omega) (pc' := 83) rfl (fun h4 => ?_) (fun h5 => ?_)
  ·
    exact T_vret zk_39_113 rfl (fun σ' h => ⟨rfl, h.1, ⟨h.2.1, trivial⟩⟩)
  ·
    refine T_ld zk_39_83 rfl rfl rfl (pc' := 84) rfl ?_
    refine T_getR (t' := 8) (i' := 1) (k' := 0) zk_39_84 rfl rfl rfl (vd_2 (by omega)) (pc' := 87) rfl ?_
    refine T_ld zk_39_87 rfl rfl rfl (pc' := 88) rfl ?_
    refine T_ld zk_39_88 rfl rfl rfl (pc' := 89) rfl ?_
    refine T_getR (t' := 8) (i' := 0) (k' := 0) zk_39_89 rfl rfl rfl (vd_2 (by omega)) (pc' := 92) rfl ?_
    refine T_ld zk_39_92 rfl rfl rfl (pc' := 93) rfl ?_
    refine G_bald (lo := 0) (hi := 1) (ln := 40) zk_39_93 rfl rfl (vd_8 (by omega)) (by omega) (by omega) (by omega) (fun σ' h => h.1.1) (fun _ h => h.2 (by omega) (by omega)) (pc' := 94) rfl (fun y6 hy6 hy6' => ?_)
    refine G_bast (J' := (fun σ' => IF (MYl 1) σ σ' ∧ (∀ j, 0 ≤ j → j < 25 → σ' 4 1 0 j = 0) ∧ True)) (ln := 40) zk_39_94 rfl rfl (by omega) (vd_8 (by omega)) (by omega) (by omega) (by omega) (fun σ' h => ⟨h.1.up (by simp only [rgP] <;> omega) (by unfold MYl; omega), up_rngn (h.2.1) (by omega), trivial⟩) (pc' := 95) rfl ?_
    refine T_ld zk_39_95 rfl rfl rfl (pc' := 96) rfl ?_
    refine T_getR (t' := 9) (i' := 1) (k' := 0) zk_39_96 rfl rfl rfl (vd_2 (by omega)) (pc' := 99) rfl ?_
    refine T_ld zk_39_99 rfl rfl rfl (pc' := 100) rfl ?_
    refine T_ld zk_39_100 rfl rfl rfl (pc' := 101) rfl ?_
    refine T_getR (t' := 9) (i' := 0) (k' := 0) zk_39_101 rfl rfl rfl (vd_2 (by omega)) (pc' := 104) rfl ?_
    refine T_ld zk_39_104 rfl rfl rfl (pc' := 105) rfl ?_
    refine G_bald (lo := 0) (hi := 1) (ln := 40) zk_39_105 rfl rfl (vd_9 (by omega)) (by omega) (by omega) (by omega) (fun σ' h => h.1.1) (fun _ h => h.2 (by omega) (by omega)) (pc' := 106) rfl (fun y7 hy7 hy7' => ?_)
    refine G_bast (J' := (fun σ' => IF (MYl 1) σ σ' ∧ (∀ j, 0 ≤ j → j < 25 → σ' 4 1 0 j = 0) ∧ True)) (ln := 40) zk_39_106 rfl rfl (by omega) (vd_9 (by omega)) (by omega) (by omega) (by omega) (fun σ' h => ⟨h.1.up (by simp only [rgP] <;> omega) (by unfold MYl; omega), up_rngn (h.2.1) (by omega), trivial⟩) (pc' := 107) rfl ?_
    refine T_iinc (L' := [(0, av 2 1 0), (1, av 2 0 0), (2, iv (x1 + 1))]) zk_39_107 (nL := 3) rfl rfl rfl rfl (pc' := 110) rfl ?_
    refine T_goto zk_39_110 ?_
    exact ih2 (x1 + 1) (by omega) (by omega)
/-- W$Mouths.takeMouths -/
theorem c_64_1 {xs : Nat × (Nat → Int32)}   (σ : ZS) (hI : Inv σ)  (s1 : σ 11 0 0 0 = 0) : CT xs 1 64 [av 11 1 0, av 11 0 0] σ (fun v σ' => v = none ∧ IF (MI 1 11 12 13 13) σ σ' ∧ (σ' 11 1 0 0 = 0 ∧ True)) := by
  refine G_ct (J := (fun σ' => IF (MI 1 11 12 13 13) σ σ' ∧ True)) (L := [(0, av 11 1 0), (1, av 11 0 0)]) (nL := 3) rfl rfl rfl ⟨IF.rf hI, trivial⟩ ?_
  refine T_ld zk_64_0 rfl rfl rfl (pc' := 1) rfl ?_
  refine T_ld zk_64_1 rfl rfl rfl (pc' := 2) rfl ?_
  refine G_getX (w := 0) zk_64_2 rfl (vd_11 (by omega)) (fun σ' h => (h.1.2 _ _ _ _ (by unfold MI; omega)).trans s1) (pc' := 5) rfl ?_
  refine T_putf (J' := (fun σ' => IF (MI 1 11 12 13 13) σ σ' ∧ σ' 11 1 0 0 = 0 ∧ True)) zk_64_5 rfl rfl (vd_11 (by omega)) (fun σ' h => ⟨h.1.up (by simp only [rgP] <;> omega) (by unfold MI; omega), up_eq, trivial⟩) (pc' := 8) rfl ?_
  refine T_op zk_64_8 rfl X_ic (pc' := 9) rfl ?_
  refine T_st (L' := [(0, av 11 1 0), (1, av 11 0 0), (2, iv 0)]) zk_64_9 (nL := 3) rfl rfl rfl rfl rfl (pc' := 10) rfl ?_
  refine T_loop1 (fun x1 => ((0 : Int)).toNat) (fun x1 => (0 ≤ x1 ∧ x1 ≤ 0)) (fun x1 => TJ xs (fun σ' => IF (MI 1 11 12 13 13) σ σ' ∧ σ' 11 1 0 0 = 0 ∧ True) 0 64 10 [(0, av 11 1 0), (1, av 11 0 0), (2, iv x1)] [] _) ?_ 0 (by omega)
  intro x1 hp3 ih2
  refine T_ld zk_64_10 rfl rfl rfl (pc' := 11) rfl ?_
  refine T_ld zk_64_11 rfl rfl rfl (pc' := 12) rfl ?_
  refine G_getX (w := 0) zk_64_12 rfl (vd_11 (by omega)) (fun σ' h => h.2.1) (pc' := 15) rfl ?_
  refine T_icmp_ge zk_64_15 (by omega) (by omega) (pc' := 18) rfl (fun h4 => ?_) (fun h5 => ?_)
  ·
    exact T_vret zk_64_48 rfl (fun σ' h => ⟨rfl, h.1, ⟨h.2.1, trivial⟩⟩)
  · exfalso; omega
/-- W$Tide.takeTide -/
theorem c_72_10 {xs : Nat × (Nat → Int32)}   (σ : ZS) (hI : Inv σ)  (s1 : σ 17 0 0 0 = 0) : CT xs 1 72 [av 17 1 0, av 17 0 0] σ (fun v σ' => v = none ∧ IF (MYt 1 0) σ σ' ∧ (σ' 17 1 0 0 = 0 ∧ True)) := by
  refine G_ct (J := (fun σ' => IF (MYt 1 0) σ σ' ∧ True)) (L := [(0, av 17 1 0), (1, av 17 0 0)]) (nL := 2) rfl rfl rfl ⟨IF.rf hI, trivial⟩ ?_
  refine T_ld zk_72_0 rfl rfl rfl (pc' := 1) rfl ?_
  refine T_ld zk_72_1 rfl rfl rfl (pc' := 2) rfl ?_
  refine G_getX (w := 0) zk_72_2 rfl (vd_17 (by omega) (by omega)) (fun σ' h => (h.1.2 _ _ _ _ (by unfold MYt; omega)).trans s1) (pc' := 5) rfl ?_
  refine T_putf (J' := (fun σ' => IF (MYt 1 0) σ σ' ∧ σ' 17 1 0 0 = 0 ∧ True)) zk_72_5 rfl rfl (vd_17 (by omega) (by omega)) (fun σ' h => ⟨h.1.up (by simp only [rgP] <;> omega) (by unfold MYt; omega), up_eq, trivial⟩) (pc' := 8) rfl ?_
  refine T_ld zk_72_8 rfl rfl rfl (pc' := 9) rfl ?_
  refine T_getR (t' := 18) (i' := 0) (k' := 0) zk_72_9 rfl rfl rfl (vd_17 (by omega) (by omega)) (pc' := 12) rfl ?_
  refine T_op zk_72_12 rfl X_ic (pc' := 13) rfl ?_
  refine T_ld zk_72_13 rfl rfl rfl (pc' := 14) rfl ?_
  refine T_getR (t' := 18) (i' := 1) (k' := 0) zk_72_14 rfl rfl rfl (vd_17 (by omega) (by omega)) (pc' := 17) rfl ?_
  refine T_op zk_72_17 rfl X_ic (pc' := 18) rfl ?_
  refine T_op zk_72_18 rfl (X_bi (v := 96) (by decide)) (pc' := 20) rfl ?_
  refine G_copy (J' := (fun σ' => IF (MYt 1 0) σ σ' ∧ σ' 17 1 0 0 = 0 ∧ True)) (l0 := 96) (l1 := 96) (kk := 12) zk_72_20 rfl rfl (by decide) rfl rfl rfl rfl (vd_18 (by omega) (by omega)) (vd_18 (by omega) (by omega)) (by omega) (by omega) (by omega) (by omega) (by omega) (fun σ' h => ⟨h.1.cp (rg_cp0 rfl (fun _ _ h => h) (fun j => h.1.1 18 0 0 j (vd_18 (by omega) (by omega))) (fun j => h.1.1 18 1 0 j (vd_18 (by omega) (by omega)))) (fun j => (by unfold MYt; omega)), (congrFun (upr_oth _ _ _ (by omega)) _).trans (h.2.1), trivial⟩) (pc' := 23) rfl ?_
  exact T_vret zk_72_23 rfl (fun σ' h => ⟨rfl, h.1, ⟨h.2.1, trivial⟩⟩)
/-- W$Tide.takeTide -/
theorem c_72_11 {xs : Nat × (Nat → Int32)}   (σ : ZS) (hI : Inv σ)  (s1 : σ 17 0 1 0 = 0) : CT xs 1 72 [av 17 1 1, av 17 0 1] σ (fun v σ' => v = none ∧ IF (MYt 1 1) σ σ' ∧ (σ' 17 1 1 0 = 0 ∧ True)) := by
  refine G_ct (J := (fun σ' => IF (MYt 1 1) σ σ' ∧ True)) (L := [(0, av 17 1 1), (1, av 17 0 1)]) (nL := 2) rfl rfl rfl ⟨IF.rf hI, trivial⟩ ?_
  refine T_ld zk_72_0 rfl rfl rfl (pc' := 1) rfl ?_
  refine T_ld zk_72_1 rfl rfl rfl (pc' := 2) rfl ?_
  refine G_getX (w := 0) zk_72_2 rfl (vd_17 (by omega) (by omega)) (fun σ' h => (h.1.2 _ _ _ _ (by unfold MYt; omega)).trans s1) (pc' := 5) rfl ?_
  refine T_putf (J' := (fun σ' => IF (MYt 1 1) σ σ' ∧ σ' 17 1 1 0 = 0 ∧ True)) zk_72_5 rfl rfl (vd_17 (by omega) (by omega)) (fun σ' h => ⟨h.1.up (by simp only [rgP] <;> omega) (by unfold MYt; omega), up_eq, trivial⟩) (pc' := 8) rfl ?_
  refine T_ld zk_72_8 rfl rfl rfl (pc' := 9) rfl ?_
  refine T_getR (t' := 18) (i' := 0) (k' := 1) zk_72_9 rfl rfl rfl (vd_17 (by omega) (by omega)) (pc' := 12) rfl ?_
  refine T_op zk_72_12 rfl X_ic (pc' := 13) rfl ?_
  refine T_ld zk_72_13 rfl rfl rfl (pc' := 14) rfl ?_
  refine T_getR (t' := 18) (i' := 1) (k' := 1) zk_72_14 rfl rfl rfl (vd_17 (by omega) (by omega)) (pc' := 17) rfl ?_
  refine T_op zk_72_17 rfl X_ic (pc' := 18) rfl ?_
  refine T_op zk_72_18 rfl (X_bi (v := 96) (by decide)) (pc' := 20) rfl ?_
  refine G_copy (J' := (fun σ' => IF (MYt 1 1) σ σ' ∧ σ' 17 1 1 0 = 0 ∧ True)) (l0 := 96) (l1 := 96) (kk := 12) zk_72_20 rfl rfl (by decide) rfl rfl rfl rfl (vd_18 (by omega) (by omega)) (vd_18 (by omega) (by omega)) (by omega) (by omega) (by omega) (by omega) (by omega) (fun σ' h => ⟨h.1.cp (rg_cp0 rfl (fun _ _ h => h) (fun j => h.1.1 18 0 1 j (vd_18 (by omega) (by omega))) (fun j => h.1.1 18 1 1 j (vd_18 (by omega) (by omega)))) (fun j => (by unfold MYt; omega)), (congrFun (upr_oth _ _ _ (by omega)) _).trans (h.2.1), trivial⟩) (pc' := 23) rfl ?_
  exact T_vret zk_72_23 rfl (fun σ' h => ⟨rfl, h.1, ⟨h.2.1, trivial⟩⟩)
/-- W$City.takeCity -/
theorem c_22_1 {xs : Nat × (Nat → Int32)}   (σ : ZS) (hI : Inv σ)  (s0 : (∀ j, 0 ≤ j → j < 25 → σ 4 0 0 j = 0)) (s1 : σ 11 0 0 0 = 0) (s2 : σ 17 0 0 0 = 0) (s3 : σ 17 0 1 0 = 0) (s4 : σ 1 0 0 5 = 0) (s5 : σ 1 0 0 6 = 0) (s6 : σ 1 0 0 7 = 0) (s7 : σ 1 0 0 13 = 0) : CT xs 2 22 [av 1 1 0, av 1 0 0] σ (fun v σ' => v = none ∧ IF (MY 1) σ σ' ∧ ((∀ j, 0 ≤ j → j < 25 → σ' 4 1 0 j = 0) ∧ σ' 11 1 0 0 = 0 ∧ σ' 17 1 0 0 = 0 ∧ σ' 17 1 1 0 = 0 ∧ σ' 1 1 0 5 = 0 ∧ σ' 1 1 0 6 = 0 ∧ σ' 1 1 0 7 = 0 ∧ σ' 1 1 0 13 = 0 ∧ True)) := by
  refine G_ct (J := (fun σ' => IF (MY 1) σ σ' ∧ True)) (L := [(0, av 1 1 0), (1, av 1 0 0)]) (nL := 3) rfl rfl rfl ⟨IF.rf hI, trivial⟩ ?_
  refine T_ld zk_22_0 rfl rfl rfl (pc' := 1) rfl ?_
  refine T_getR (t' := 2) (i' := 1) (k' := 0) zk_22_1 rfl rfl rfl (vd_1 (by omega)) (pc' := 4) rfl ?_
  refine T_ld zk_22_4 rfl rfl rfl (pc' := 5) rfl ?_
  refine T_getR (t' := 2) (i' := 0) (k' := 0) zk_22_5 rfl rfl rfl (vd_1 (by omega)) (pc' := 8) rfl ?_
  refine T_callv (J' := (fun σ' => IF (MY 1) σ σ' ∧ (∀ j, 0 ≤ j → j < 25 → σ' 4 1 0 j = 0) ∧ True)) (r := []) zk_22_8 rfl rfl rfl rfl rfl rfl (Or.inr ⟨_, _, _, _, rfl, (vd_2 (by omega)), rfl⟩) (fun σ' h => (c_39_1   σ' h.1.1 (fun j a b => (h.1.2 _ _ _ _ (by unfold MY; omega)).trans (s0 j (by omega) (by omega)))).le (Nat.le_of_ble_eq_true rfl) (fun v σ2 ⟨h1, h3, h4⟩ => ⟨h1, h.1.tr h3 (fun t i k j h => by unfold MYl at h; unfold MY; omega), h4.1, trivial⟩)) (pc' := 11) rfl ?_
  refine T_ld zk_22_11 rfl rfl rfl (pc' := 12) rfl ?_
  refine T_getR (t' := 11) (i' := 1) (k' := 0) zk_22_12 rfl rfl rfl (vd_1 (by omega)) (pc' := 15) rfl ?_
  refine T_ld zk_22_15 rfl rfl rfl (pc' := 16) rfl ?_
  refine T_getR (t' := 11) (i' := 0) (k' := 0) zk_22_16 rfl rfl rfl (vd_1 (by omega)) (pc' := 19) rfl ?_
  refine T_callv (J' := (fun σ' => IF (MY 1) σ σ' ∧ (∀ j, 0 ≤ j → j < 25 → σ' 4 1 0 j = 0) ∧ σ' 11 1 0 0 = 0 ∧ True)) (r := []) zk_22_19 rfl rfl rfl rfl rfl rfl (Or.inr ⟨_, _, _, _, rfl, (vd_11 (by omega)), rfl⟩) (fun σ' h => (c_64_1   σ' h.1.1 ((h.1.2 _ _ _ _ (by unfold MY; omega)).trans s1)).le (Nat.le_of_ble_eq_true rfl) (fun v σ2 ⟨h1, h3, h4⟩ => ⟨h1, h.1.tr h3 (fun t i k j h => by unfold MI at h; unfold MY; omega), fun j a b => (h3.2 _ _ _ _ (by unfold MI; omega)).trans (h.2.1 j a b), h4.1, trivial⟩)) (pc' := 22) rfl ?_
  refine T_ld zk_22_22 rfl rfl rfl (pc' := 23) rfl ?_
  refine T_getR (t' := 17) (i' := 1) (k' := 0) zk_22_23 rfl rfl rfl (vd_1 (by omega)) (pc' := 26) rfl ?_
  refine T_ld zk_22_26 rfl rfl rfl (pc' := 27) rfl ?_
  refine T_getR (t' := 17) (i' := 0) (k' := 0) zk_22_27 rfl rfl rfl (vd_1 (by omega)) (pc' := 30) rfl ?_
  refine T_callv (J' := (fun σ' => IF (MY 1) σ σ' ∧ (∀ j, 0 ≤ j → j < 25 → σ' 4 1 0 j = 0) ∧ σ' 11 1 0 0 = 0 ∧ σ' 17 1 0 0 = 0 ∧ True)) (r := []) zk_22_30 rfl rfl rfl rfl rfl rfl (Or.inr ⟨_, _, _, _, rfl, (vd_17 (by omega) (by omega)), rfl⟩) (fun σ' h => (c_72_10   σ' h.1.1 ((h.1.2 _ _ _ _ (by unfold MY; omega)).trans s2)).le (Nat.le_of_ble_eq_true rfl) (fun v σ2 ⟨h1, h3, h4⟩ => ⟨h1, h.1.tr h3 (fun t i k j h => by unfold MYt at h; unfold MY; omega), fun j a b => (h3.2 _ _ _ _ (by unfold MYt; omega)).trans (h.2.1 j a b), (h3.2 _ _ _ _ (by unfold MYt; omega)).trans (h.2.2.1), h4.1, trivial⟩)) (pc' := 33) rfl ?_
  refine T_ld zk_22_33 rfl rfl rfl (pc' := 34) rfl ?_
  refine T_getR (t' := 17) (i' := 1) (k' := 1) zk_22_34 rfl rfl rfl (vd_1 (by omega)) (pc' := 37) rfl ?_
  refine T_ld zk_22_37 rfl rfl rfl (pc' := 38) rfl ?_
  refine T_getR (t' := 17) (i' := 0) (k' := 1) zk_22_38 rfl rfl rfl (vd_1 (by omega)) (pc' := 41) rfl ?_
  refine T_callv (J' := (fun σ' => IF (MY 1) σ σ' ∧ (∀ j, 0 ≤ j → j < 25 → σ' 4 1 0 j = 0) ∧ σ' 11 1 0 0 = 0 ∧ σ' 17 1 0 0 = 0 ∧ σ' 17 1 1 0 = 0 ∧ True)) (r := []) zk_22_41 rfl rfl rfl rfl rfl rfl (Or.inr ⟨_, _, _, _, rfl, (vd_17 (by omega) (by omega)), rfl⟩) (fun σ' h => (c_72_11   σ' h.1.1 ((h.1.2 _ _ _ _ (by unfold MY; omega)).trans s3)).le (Nat.le_of_ble_eq_true rfl) (fun v σ2 ⟨h1, h3, h4⟩ => ⟨h1, h.1.tr h3 (fun t i k j h => by unfold MYt at h; unfold MY; omega), fun j a b => (h3.2 _ _ _ _ (by unfold MYt; omega)).trans (h.2.1 j a b), (h3.2 _ _ _ _ (by unfold MYt; omega)).trans (h.2.2.1), (h3.2 _ _ _ _ (by unfold MYt; omega)).trans (h.2.2.2.1), h4.1, trivial⟩)) (pc' := 44) rfl ?_
  refine T_ld zk_22_44 rfl rfl rfl (pc' := 45) rfl ?_
  refine T_ld zk_22_45 rfl rfl rfl (pc' := 46) rfl ?_
  refine G_getX (w := 0) zk_22_46 rfl (vd_1 (by omega)) (fun σ' h => (h.1.2 _ _ _ _ (by unfold MY; omega)).trans s4) (pc' := 49) rfl ?_
  refine T_putf (J' := (fun σ' => IF (MY 1) σ σ' ∧ (∀ j, 0 ≤ j → j < 25 → σ' 4 1 0 j = 0) ∧ σ' 11 1 0 0 = 0 ∧ σ' 17 1 0 0 = 0 ∧ σ' 17 1 1 0 = 0 ∧ σ' 1 1 0 5 = 0 ∧ True)) zk_22_49 rfl rfl (vd_1 (by omega)) (fun σ' h => ⟨h.1.up (by simp only [rgP] <;> omega) (by unfold MY; omega), up_rngn (h.2.1) (by omega), (up_ne (by omega)).trans (h.2.2.1), (up_ne (by omega)).trans (h.2.2.2.1), (up_ne (by omega)).trans (h.2.2.2.2.1), up_eq, trivial⟩) (pc' := 52) rfl ?_
  refine T_op zk_22_52 rfl X_ic (pc' := 53) rfl ?_
  refine T_st (L' := [(0, av 1 1 0), (1, av 1 0 0), (2, iv 0)]) zk_22_53 (nL := 3) rfl rfl rfl rfl rfl (pc' := 54) rfl ?_
  refine T_loop1 (fun x5 => ((0 : Int)).toNat) (fun x5 => (0 ≤ x5 ∧ x5 ≤ 0)) (fun x5 => TJ xs (fun σ' => IF (MY 1) σ σ' ∧ (∀ j, 0 ≤ j → j < 25 → σ' 4 1 0 j = 0) ∧ σ' 11 1 0 0 = 0 ∧ σ' 17 1 0 0 = 0 ∧ σ' 17 1 1 0 = 0 ∧ σ' 1 1 0 5 = 0 ∧ True) 1 22 54 [(0, av 1 1 0), (1, av 1 0 0), (2, iv x5)] [] _) ?_ 0 (by omega)
  intro x5 hp7 ih6
  refine T_ld zk_22_54 rfl rfl rfl (pc' := 55) rfl ?_
  refine T_ld zk_22_55 rfl rfl rfl (pc' := 56) rfl ?_
  refine G_getX (w := 0) zk_22_56 rfl (vd_1 (by omega)) (fun σ' h => h.2.2.2.2.2.1) (pc' := 59) rfl ?_
  refine T_icmp_ge zk_22_59 (by omega) (by omega) (pc' := 62) rfl (fun h8 => ?_) (fun h9 => ?_)
  ·
    refine T_ld zk_22_83 rfl rfl rfl (pc' := 84) rfl ?_
    refine T_ld zk_22_84 rfl rfl rfl (pc' := 85) rfl ?_
    refine G_getX (w := 0) zk_22_85 rfl (vd_1 (by omega)) (fun σ' h => (h.1.2 _ _ _ _ (by unfold MY; omega)).trans s5) (pc' := 88) rfl ?_
    refine T_putf (J' := (fun σ' => IF (MY 1) σ σ' ∧ (∀ j, 0 ≤ j → j < 25 → σ' 4 1 0 j = 0) ∧ σ' 11 1 0 0 = 0 ∧ σ' 17 1 0 0 = 0 ∧ σ' 17 1 1 0 = 0 ∧ σ' 1 1 0 5 = 0 ∧ σ' 1 1 0 6 = 0 ∧ True)) zk_22_88 rfl rfl (vd_1 (by omega)) (fun σ' h => ⟨h.1.up (by simp only [rgP] <;> omega) (by unfold MY; omega), up_rngn (h.2.1) (by omega), (up_ne (by omega)).trans (h.2.2.1), (up_ne (by omega)).trans (h.2.2.2.1), (up_ne (by omega)).trans (h.2.2.2.2.1), (up_ne (by omega)).trans (h.2.2.2.2.2.1), up_eq, trivial⟩) (pc' := 91) rfl ?_
    refine T_op zk_22_91 rfl X_ic (pc' := 92) rfl ?_
    refine T_st (L' := [(0, av 1 1 0), (1, av 1 0 0), (2, iv 0)]) zk_22_92 (nL := 3) rfl rfl rfl rfl rfl (pc' := 93) rfl ?_
    refine T_loop1 (fun x10 => ((0 : Int)).toNat) (fun x10 => (0 ≤ x10 ∧ x10 ≤ 0)) (fun x10 => TJ xs (fun σ' => IF (MY 1) σ σ' ∧ (∀ j, 0 ≤ j → j < 25 → σ' 4 1 0 j = 0) ∧ σ' 11 1 0 0 = 0 ∧ σ' 17 1 0 0 = 0 ∧ σ' 17 1 1 0 = 0 ∧ σ' 1 1 0 5 = 0 ∧ σ' 1 1 0 6 = 0 ∧ True) 1 22 93 [(0, av 1 1 0), (1, av 1 0 0), (2, iv x10)] [] _) ?_ 0 (by omega)
    intro x10 hp12 ih11
    refine T_ld zk_22_93 rfl rfl rfl (pc' := 94) rfl ?_
    refine T_ld zk_22_94 rfl rfl rfl (pc' := 95) rfl ?_
    refine G_getX (w := 0) zk_22_95 rfl (vd_1 (by omega)) (fun σ' h => h.2.2.2.2.2.2.1) (pc' := 98) rfl ?_
    refine T_icmp_ge zk_22_98 (by omega) (by omega) (pc' := 101) rfl (fun h13 => ?_) (fun h14 => ?_)
    ·
      refine T_ld zk_22_122 rfl rfl rfl (pc' := 123) rfl ?_
      refine T_ld zk_22_123 rfl rfl rfl (pc' := 124) rfl ?_
      refine G_getX (w := 0) zk_22_124 rfl (vd_1 (by omega)) (fun σ' h => (h.1.2 _ _ _ _ (by unfold MY; omega)).trans s6) (pc' := 127) rfl ?_
      refine T_putf (J' := (fun σ' => IF (MY 1) σ σ' ∧ (∀ j, 0 ≤ j → j < 25 → σ' 4 1 0 j = 0) ∧ σ' 11 1 0 0 = 0 ∧ σ' 17 1 0 0 = 0 ∧ σ' 17 1 1 0 = 0 ∧ σ' 1 1 0 5 = 0 ∧ σ' 1 1 0 6 = 0 ∧ σ' 1 1 0 7 = 0 ∧ True)) zk_22_127 rfl rfl (vd_1 (by omega)) (fun σ' h => ⟨h.1.up (by simp only [rgP] <;> omega) (by unfold MY; omega), up_rngn (h.2.1) (by omega), (up_ne (by omega)).trans (h.2.2.1), (up_ne (by omega)).trans (h.2.2.2.1), (up_ne (by omega)).trans (h.2.2.2.2.1), (up_ne (by omega)).trans (h.2.2.2.2.2.1), (up_ne (by omega)).trans (h.2.2.2.2.2.2.1), up_eq, trivial⟩) (pc' := 130) rfl ?_
      refine T_op zk_22_130 rfl X_ic (pc' := 131) rfl ?_
      refine T_st (L' := [(0, av 1 1 0), (1, av 1 0 0), (2, iv 0)]) zk_22_131 (nL := 3) rfl rfl rfl rfl rfl (pc' := 132) rfl ?_
      refine T_loop1 (fun x15 => ((0 : Int)).toNat) (fun x15 => (0 ≤ x15 ∧ x15 ≤ 0)) (fun x15 => TJ xs (fun σ' => IF (MY 1) σ σ' ∧ (∀ j, 0 ≤ j → j < 25 → σ' 4 1 0 j = 0) ∧ σ' 11 1 0 0 = 0 ∧ σ' 17 1 0 0 = 0 ∧ σ' 17 1 1 0 = 0 ∧ σ' 1 1 0 5 = 0 ∧ σ' 1 1 0 6 = 0 ∧ σ' 1 1 0 7 = 0 ∧ True) 1 22 132 [(0, av 1 1 0), (1, av 1 0 0), (2, iv x15)] [] _) ?_ 0 (by omega)
      intro x15 hp17 ih16
      refine T_ld zk_22_132 rfl rfl rfl (pc' := 133) rfl ?_
      refine T_ld zk_22_133 rfl rfl rfl (pc' := 134) rfl ?_
      refine G_getX (w := 0) zk_22_134 rfl (vd_1 (by omega)) (fun σ' h => h.2.2.2.2.2.2.2.1) (pc' := 137) rfl ?_
      refine T_icmp_ge zk_22_137 (by omega) (by omega) (pc' := 140) rfl (fun h18 => ?_) (fun h19 => ?_)
      ·
        refine T_ld zk_22_161 rfl rfl rfl (pc' := 162) rfl ?_
        refine T_ld zk_22_162 rfl rfl rfl (pc' := 163) rfl ?_
        refine G_getf (lo := 0) (hi := 99) zk_22_163 rfl (vd_1 (by omega)) (fun σ' h => h.1.1) (fun _ h => h.2.2.2.2.1 (by omega) (by omega)) (pc' := 166) rfl (fun y20 hy20 hy20' => ?_)
        refine T_putf (J' := (fun σ' => IF (MY 1) σ σ' ∧ (∀ j, 0 ≤ j → j < 25 → σ' 4 1 0 j = 0) ∧ σ' 11 1 0 0 = 0 ∧ σ' 17 1 0 0 = 0 ∧ σ' 17 1 1 0 = 0 ∧ σ' 1 1 0 5 = 0 ∧ σ' 1 1 0 6 = 0 ∧ σ' 1 1 0 7 = 0 ∧ σ' 1 1 0 10 = y20 ∧ True)) zk_22_166 rfl rfl (vd_1 (by omega)) (fun σ' h => ⟨h.1.up (by simp only [rgP] <;> omega) (by unfold MY; omega), up_rngn (h.2.1) (by omega), (up_ne (by omega)).trans (h.2.2.1), (up_ne (by omega)).trans (h.2.2.2.1), (up_ne (by omega)).trans (h.2.2.2.2.1), (up_ne (by omega)).trans (h.2.2.2.2.2.1), (up_ne (by omega)).trans (h.2.2.2.2.2.2.1), (up_ne (by omega)).trans (h.2.2.2.2.2.2.2.1), up_eq, trivial⟩) (pc' := 169) rfl ?_
        refine T_ld zk_22_169 rfl rfl rfl (pc' := 170) rfl ?_
        refine T_ld zk_22_170 rfl rfl rfl (pc' := 171) rfl ?_
        refine G_getf (lo := 1) (hi := 9) zk_22_171 rfl (vd_1 (by omega)) (fun σ' h => h.1.1) (fun _ h => h.2.2.2.2.2.1 (by omega) (by omega)) (pc' := 174) rfl (fun y21 hy21 hy21' => ?_)
        refine T_putf (J' := (fun σ' => IF (MY 1) σ σ' ∧ (∀ j, 0 ≤ j → j < 25 → σ' 4 1 0 j = 0) ∧ σ' 11 1 0 0 = 0 ∧ σ' 17 1 0 0 = 0 ∧ σ' 17 1 1 0 = 0 ∧ σ' 1 1 0 5 = 0 ∧ σ' 1 1 0 6 = 0 ∧ σ' 1 1 0 7 = 0 ∧ σ' 1 1 0 10 = y20 ∧ σ' 1 1 0 11 = y21 ∧ True)) zk_22_174 rfl rfl (vd_1 (by omega)) (fun σ' h => ⟨h.1.up (by simp only [rgP] <;> omega) (by unfold MY; omega), up_rngn (h.2.1) (by omega), (up_ne (by omega)).trans (h.2.2.1), (up_ne (by omega)).trans (h.2.2.2.1), (up_ne (by omega)).trans (h.2.2.2.2.1), (up_ne (by omega)).trans (h.2.2.2.2.2.1), (up_ne (by omega)).trans (h.2.2.2.2.2.2.1), (up_ne (by omega)).trans (h.2.2.2.2.2.2.2.1), (up_ne (by omega)).trans (h.2.2.2.2.2.2.2.2.1), up_eq, trivial⟩) (pc' := 177) rfl ?_
        refine T_ld zk_22_177 rfl rfl rfl (pc' := 178) rfl ?_
        refine T_ld zk_22_178 rfl rfl rfl (pc' := 179) rfl ?_
        refine G_getf (lo := 0) (hi := 9999) zk_22_179 rfl (vd_1 (by omega)) (fun σ' h => h.1.1) (fun _ h => h.2.2.2.2.2.2 (by omega) (by omega)) (pc' := 182) rfl (fun y22 hy22 hy22' => ?_)
        refine T_putf (J' := (fun σ' => IF (MY 1) σ σ' ∧ (∀ j, 0 ≤ j → j < 25 → σ' 4 1 0 j = 0) ∧ σ' 11 1 0 0 = 0 ∧ σ' 17 1 0 0 = 0 ∧ σ' 17 1 1 0 = 0 ∧ σ' 1 1 0 5 = 0 ∧ σ' 1 1 0 6 = 0 ∧ σ' 1 1 0 7 = 0 ∧ σ' 1 1 0 10 = y20 ∧ σ' 1 1 0 11 = y21 ∧ σ' 1 1 0 12 = y22 ∧ True)) zk_22_182 rfl rfl (vd_1 (by omega)) (fun σ' h => ⟨h.1.up (by simp only [rgP] <;> omega) (by unfold MY; omega), up_rngn (h.2.1) (by omega), (up_ne (by omega)).trans (h.2.2.1), (up_ne (by omega)).trans (h.2.2.2.1), (up_ne (by omega)).trans (h.2.2.2.2.1), (up_ne (by omega)).trans (h.2.2.2.2.2.1), (up_ne (by omega)).trans (h.2.2.2.2.2.2.1), (up_ne (by omega)).trans (h.2.2.2.2.2.2.2.1), (up_ne (by omega)).trans (h.2.2.2.2.2.2.2.2.1), (up_ne (by omega)).trans (h.2.2.2.2.2.2.2.2.2.1), up_eq, trivial⟩) (pc' := 185) rfl ?_
        refine T_ld zk_22_185 rfl rfl rfl (pc' := 186) rfl ?_
        refine T_ld zk_22_186 rfl rfl rfl (pc' := 187) rfl ?_
        refine G_getX (w := 0) zk_22_187 rfl (vd_1 (by omega)) (fun σ' h => (h.1.2 _ _ _ _ (by unfold MY; omega)).trans s7) (pc' := 190) rfl ?_
        refine T_putf (J' := (fun σ' => IF (MY 1) σ σ' ∧ (∀ j, 0 ≤ j → j < 25 → σ' 4 1 0 j = 0) ∧ σ' 11 1 0 0 = 0 ∧ σ' 17 1 0 0 = 0 ∧ σ' 17 1 1 0 = 0 ∧ σ' 1 1 0 5 = 0 ∧ σ' 1 1 0 6 = 0 ∧ σ' 1 1 0 7 = 0 ∧ σ' 1 1 0 10 = y20 ∧ σ' 1 1 0 11 = y21 ∧ σ' 1 1 0 12 = y22 ∧ σ' 1 1 0 13 = 0 ∧ True)) zk_22_190 rfl rfl (vd_1 (by omega)) (fun σ' h => ⟨h.1.up (by simp only [rgP] <;> omega) (by unfold MY; omega), up_rngn (h.2.1) (by omega), (up_ne (by omega)).trans (h.2.2.1), (up_ne (by omega)).trans (h.2.2.2.1), (up_ne (by omega)).trans (h.2.2.2.2.1), (up_ne (by omega)).trans (h.2.2.2.2.2.1), (up_ne (by omega)).trans (h.2.2.2.2.2.2.1), (up_ne (by omega)).trans (h.2.2.2.2.2.2.2.1), (up_ne (by omega)).trans (h.2.2.2.2.2.2.2.2.1), (up_ne (by omega)).trans (h.2.2.2.2.2.2.2.2.2.1), (up_ne (by omega)).trans (h.2.2.2.2.2.2.2.2.2.2.1), up_eq, trivial⟩) (pc' := 193) rfl ?_
        refine T_ld zk_22_193 rfl rfl rfl (pc' := 194) rfl ?_
        refine T_ld zk_22_194 rfl rfl rfl (pc' := 195) rfl ?_
        refine G_getf (lo := -2147483648) (hi := 2147483647) zk_22_195 rfl (vd_1 (by omega)) (fun σ' h => h.1.1) (fun _ h => h.1) (pc' := 198) rfl (fun y23 hy23 hy23' => ?_)
        refine T_putf (J' := (fun σ' => IF (MY 1) σ σ' ∧ (∀ j, 0 ≤ j → j < 25 → σ' 4 1 0 j = 0) ∧ σ' 11 1 0 0 = 0 ∧ σ' 17 1 0 0 = 0 ∧ σ' 17 1 1 0 = 0 ∧ σ' 1 1 0 5 = 0 ∧ σ' 1 1 0 6 = 0 ∧ σ' 1 1 0 7 = 0 ∧ σ' 1 1 0 10 = y20 ∧ σ' 1 1 0 11 = y21 ∧ σ' 1 1 0 12 = y22 ∧ σ' 1 1 0 13 = 0 ∧ σ' 1 1 0 14 = y23 ∧ True)) zk_22_198 rfl rfl (vd_1 (by omega)) (fun σ' h => ⟨h.1.up (by simp only [rgP] <;> omega) (by unfold MY; omega), up_rngn (h.2.1) (by omega), (up_ne (by omega)).trans (h.2.2.1), (up_ne (by omega)).trans (h.2.2.2.1), (up_ne (by omega)).trans (h.2.2.2.2.1), (up_ne (by omega)).trans (h.2.2.2.2.2.1), (up_ne (by omega)).trans (h.2.2.2.2.2.2.1), (up_ne (by omega)).trans (h.2.2.2.2.2.2.2.1), (up_ne (by omega)).trans (h.2.2.2.2.2.2.2.2.1), (up_ne (by omega)).trans (h.2.2.2.2.2.2.2.2.2.1), (up_ne (by omega)).trans (h.2.2.2.2.2.2.2.2.2.2.1), (up_ne (by omega)).trans (h.2.2.2.2.2.2.2.2.2.2.2.1), up_eq, trivial⟩) (pc' := 201) rfl ?_
        refine T_ld zk_22_201 rfl rfl rfl (pc' := 202) rfl ?_
        refine T_ld zk_22_202 rfl rfl rfl (pc' := 203) rfl ?_
        refine G_getf (lo := -2147483648) (hi := 2147483647) zk_22_203 rfl (vd_1 (by omega)) (fun σ' h => h.1.1) (fun _ h => h.1) (pc' := 206) rfl (fun y24 hy24 hy24' => ?_)
        refine T_putf (J' := (fun σ' => IF (MY 1) σ σ' ∧ (∀ j, 0 ≤ j → j < 25 → σ' 4 1 0 j = 0) ∧ σ' 11 1 0 0 = 0 ∧ σ' 17 1 0 0 = 0 ∧ σ' 17 1 1 0 = 0 ∧ σ' 1 1 0 5 = 0 ∧ σ' 1 1 0 6 = 0 ∧ σ' 1 1 0 7 = 0 ∧ σ' 1 1 0 10 = y20 ∧ σ' 1 1 0 11 = y21 ∧ σ' 1 1 0 12 = y22 ∧ σ' 1 1 0 13 = 0 ∧ σ' 1 1 0 14 = y23 ∧ σ' 1 1 0 15 = y24 ∧ True)) zk_22_206 rfl rfl (vd_1 (by omega)) (fun σ' h => ⟨h.1.up (by simp only [rgP] <;> omega) (by unfold MY; omega), up_rngn (h.2.1) (by omega), (up_ne (by omega)).trans (h.2.2.1), (up_ne (by omega)).trans (h.2.2.2.1), (up_ne (by omega)).trans (h.2.2.2.2.1), (up_ne (by omega)).trans (h.2.2.2.2.2.1), (up_ne (by omega)).trans (h.2.2.2.2.2.2.1), (up_ne (by omega)).trans (h.2.2.2.2.2.2.2.1), (up_ne (by omega)).trans (h.2.2.2.2.2.2.2.2.1), (up_ne (by omega)).trans (h.2.2.2.2.2.2.2.2.2.1), (up_ne (by omega)).trans (h.2.2.2.2.2.2.2.2.2.2.1), (up_ne (by omega)).trans (h.2.2.2.2.2.2.2.2.2.2.2.1), (up_ne (by omega)).trans (h.2.2.2.2.2.2.2.2.2.2.2.2.1), up_eq, trivial⟩) (pc' := 209) rfl ?_
        refine T_ld zk_22_209 rfl rfl rfl (pc' := 210) rfl ?_
        refine T_ld zk_22_210 rfl rfl rfl (pc' := 211) rfl ?_
        refine G_getf (lo := -2147483648) (hi := 2147483647) zk_22_211 rfl (vd_1 (by omega)) (fun σ' h => h.1.1) (fun _ h => h.1) (pc' := 214) rfl (fun y25 hy25 hy25' => ?_)
        refine T_putf (J' := (fun σ' => IF (MY 1) σ σ' ∧ (∀ j, 0 ≤ j → j < 25 → σ' 4 1 0 j = 0) ∧ σ' 11 1 0 0 = 0 ∧ σ' 17 1 0 0 = 0 ∧ σ' 17 1 1 0 = 0 ∧ σ' 1 1 0 5 = 0 ∧ σ' 1 1 0 6 = 0 ∧ σ' 1 1 0 7 = 0 ∧ σ' 1 1 0 10 = y20 ∧ σ' 1 1 0 11 = y21 ∧ σ' 1 1 0 12 = y22 ∧ σ' 1 1 0 13 = 0 ∧ σ' 1 1 0 14 = y23 ∧ σ' 1 1 0 15 = y24 ∧ σ' 1 1 0 16 = y25 ∧ True)) zk_22_214 rfl rfl (vd_1 (by omega)) (fun σ' h => ⟨h.1.up (by simp only [rgP] <;> omega) (by unfold MY; omega), up_rngn (h.2.1) (by omega), (up_ne (by omega)).trans (h.2.2.1), (up_ne (by omega)).trans (h.2.2.2.1), (up_ne (by omega)).trans (h.2.2.2.2.1), (up_ne (by omega)).trans (h.2.2.2.2.2.1), (up_ne (by omega)).trans (h.2.2.2.2.2.2.1), (up_ne (by omega)).trans (h.2.2.2.2.2.2.2.1), (up_ne (by omega)).trans (h.2.2.2.2.2.2.2.2.1), (up_ne (by omega)).trans (h.2.2.2.2.2.2.2.2.2.1), (up_ne (by omega)).trans (h.2.2.2.2.2.2.2.2.2.2.1), (up_ne (by omega)).trans (h.2.2.2.2.2.2.2.2.2.2.2.1), (up_ne (by omega)).trans (h.2.2.2.2.2.2.2.2.2.2.2.2.1), (up_ne (by omega)).trans (h.2.2.2.2.2.2.2.2.2.2.2.2.2.1), up_eq, trivial⟩) (pc' := 217) rfl ?_
        exact T_vret zk_22_217 rfl (fun σ' h => ⟨rfl, h.1, ⟨h.2.1, h.2.2.1, h.2.2.2.1, h.2.2.2.2.1, h.2.2.2.2.2.1, h.2.2.2.2.2.2.1, h.2.2.2.2.2.2.2.1, h.2.2.2.2.2.2.2.2.2.2.2.1, trivial⟩⟩)
      · exfalso; omega
    · exfalso; omega
  · exfalso; omega
end
