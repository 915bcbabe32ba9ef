theorem zk_155_0 : zc 155 0 = some (.aload_n 0, 0, 0, 0, 0) := rfl
theorem zk_155_1 : zc 155 1 = some (.iload_n 1, 0, 0, 0, 0) := rfl
theorem zk_155_2 : zc 155 2 = some (.invokevirtual 121, 143, 0, 2, 134) := rfl
theorem zk_155_5 : zc 155 5 = some (.istore_n 2, 0, 0, 0, 0) := rfl
theorem zk_155_6 : zc 155 6 = some (.iload_n 2, 0, 0, 0, 0) := rfl
theorem zk_155_7 : zc 155 7 = some (.ifCond .eq 9, 16, 0, 0, 0) := rfl
theorem zk_155_10 : zc 155 10 = some (.aload_n 0, 0, 0, 0, 0) := rfl
theorem zk_155_11 : zc 155 11 = some (.iload_n 2, 0, 0, 0, 0) := rfl
theorem zk_155_12 : zc 155 12 = some (.invokevirtual 103, 123, 0, 2, 129) := rfl
theorem zk_155_15 : zc 155 15 = some (.ireturn, 0, 0, 0, 0) := rfl
theorem zk_155_16 : zc 155 16 = some (.aload_n 0, 0, 0, 0, 0) := rfl
theorem zk_155_17 : zc 155 17 = some (.getfield 7, 11, 0, 0, 139) := rfl
theorem zk_155_20 : zc 155 20 = some (.sipush 640, 0, 0, 0, 0) := rfl
theorem zk_155_23 : zc 155 23 = some (.iaload, 0, 0, 0, 0) := rfl
theorem zk_155_24 : zc 155 24 = some (.iconst 5, 0, 0, 0, 0) := rfl
theorem zk_155_25 : zc 155 25 = some (.if_icmp .ge 14, 39, 0, 0, 0) := rfl
theorem zk_155_28 : zc 155 28 = some (.aload_n 0, 0, 0, 0, 0) := rfl
theorem zk_155_29 : zc 155 29 = some (.getfield 7, 11, 0, 0, 139) := rfl
theorem zk_155_32 : zc 155 32 = some (.sipush 640, 0, 0, 0, 0) := rfl
theorem zk_155_35 : zc 155 35 = some (.iaload, 0, 0, 0, 0) := rfl
theorem zk_155_36 : zc 155 36 = some (.goto 4, 40, 0, 0, 0) := rfl
theorem zk_155_39 : zc 155 39 = some (.iconst 5, 0, 0, 0, 0) := rfl
theorem zk_155_40 : zc 155 40 = some (.istore_n 3, 0, 0, 0, 0) := rfl
theorem zk_155_41 : zc 155 41 = some (.aload_n 0, 0, 0, 0, 0) := rfl
theorem zk_155_42 : zc 155 42 = some (.aload_n 0, 0, 0, 0, 0) := rfl
theorem zk_155_43 : zc 155 43 = some (.iload_n 1, 0, 0, 0, 0) := rfl
theorem zk_155_44 : zc 155 44 = some (.iload_n 3, 0, 0, 0, 0) := rfl
theorem zk_155_45 : zc 155 45 = some (.invokevirtual 180, 154, 0, 3, 142) := rfl
theorem zk_155_48 : zc 155 48 = some (.putfield 56, 11, 16, 0, 154) := rfl
theorem zk_155_51 : zc 155 51 = some (.aload_n 0, 0, 0, 0, 0) := rfl
theorem zk_155_52 : zc 155 52 = some (.getfield 56, 11, 16, 0, 154) := rfl
theorem zk_155_55 : zc 155 55 = some (.iconst (-1), 0, 0, 0, 0) := rfl
theorem zk_155_56 : zc 155 56 = some (.if_icmp .eq 10, 66, 0, 0, 0) := rfl
theorem zk_155_59 : zc 155 59 = some (.aload_n 0, 0, 0, 0, 0) := rfl
theorem zk_155_60 : zc 155 60 = some (.bipush (-6), 0, 0, 0, 0) := rfl
theorem zk_155_62 : zc 155 62 = some (.invokevirtual 103, 123, 0, 2, 129) := rfl
theorem zk_155_65 : zc 155 65 = some (.ireturn, 0, 0, 0, 0) := rfl
theorem zk_155_66 : zc 155 66 = some (.iload_n 3, 0, 0, 0, 0) := rfl
theorem zk_155_67 : zc 155 67 = some (.iconst 5, 0, 0, 0, 0) := rfl
theorem zk_155_68 : zc 155 68 = some (.if_icmp .ne 10, 78, 0, 0, 0) := rfl
theorem zk_155_71 : zc 155 71 = some (.aload_n 0, 0, 0, 0, 0) := rfl
theorem zk_155_72 : zc 155 72 = some (.bipush (-7), 0, 0, 0, 0) := rfl
theorem zk_155_74 : zc 155 74 = some (.invokevirtual 103, 123, 0, 2, 129) := rfl
theorem zk_155_77 : zc 155 77 = some (.ireturn, 0, 0, 0, 0) := rfl
theorem zk_155_78 : zc 155 78 = some (.aload_n 0, 0, 0, 0, 0) := rfl
theorem zk_155_79 : zc 155 79 = some (.getfield 7, 11, 0, 0, 139) := rfl
theorem zk_155_82 : zc 155 82 = some (.sipush 628, 0, 0, 0, 0) := rfl
theorem zk_155_85 : zc 155 85 = some (.iload_n 3, 0, 0, 0, 0) := rfl
theorem zk_155_86 : zc 155 86 = some (.iadd, 0, 0, 0, 0) := rfl
theorem zk_155_87 : zc 155 87 = some (.iconst 1, 0, 0, 0, 0) := rfl
theorem zk_155_88 : zc 155 88 = some (.iastore, 0, 0, 0, 0) := rfl
theorem zk_155_89 : zc 155 89 = some (.aload_n 0, 0, 0, 0, 0) := rfl
theorem zk_155_90 : zc 155 90 = some (.getfield 7, 11, 0, 0, 139) := rfl
theorem zk_155_93 : zc 155 93 = some (.sipush 640, 0, 0, 0, 0) := rfl
theorem zk_155_96 : zc 155 96 = some (.dup2, 0, 0, 0, 0) := rfl
theorem zk_155_97 : zc 155 97 = some (.iaload, 0, 0, 0, 0) := rfl
theorem zk_155_98 : zc 155 98 = some (.dup_x2, 0, 0, 0, 0) := rfl
theorem zk_155_99 : zc 155 99 = some (.iconst 1, 0, 0, 0, 0) := rfl
theorem zk_155_100 : zc 155 100 = some (.iadd, 0, 0, 0, 0) := rfl
theorem zk_155_101 : zc 155 101 = some (.iastore, 0, 0, 0, 0) := rfl
theorem zk_155_102 : zc 155 102 = some (.ireturn, 0, 0, 0, 0) := rfl
def MLa (t i k j : Nat) : Prop := (t = 36 ∧ k = 0 ∧ ((628 ≤ j ∧ j < 633) ∨ j = 640)) ∨ (43 ≤ t ∧ t ≤ 50) ∨ (t = 35 ∧ (j = 16 ∨ (19 ≤ j ∧ j ≤ 25)))
theorem nMLa { t i k j : Nat} (hb : decide (((t = 36 ∧ ((628 ≤ j ∧ j < 633) ∨ j = 640)) ∨ (43 ≤ t ∧ t ≤ 50) ∨ (t = 35 ∧ (j = 16 ∨ (19 ≤ j ∧ j ≤ 25))))) = false) : ¬ MLa  t i k j := fun h => of_decide_eq_false hb (by unfold MLa at h; omega)
theorem pMLa { t i k j : Nat} (hb : decide (((43 ≤ t ∧ t ≤ 50) ∨ (t = 35 ∧ (j = 16 ∨ (19 ≤ j ∧ j ≤ 25))))) = true) : MLa  t i k j := by
  have h := of_decide_eq_true hb
  unfold MLa
  omega
theorem sb71_d492d80 : ∀ t i k j, MT 49 49 49 49 t i k j → MLa t i k j := by
  intro t i k j h
  unfold MT at h
  unfold MLa
  omega
