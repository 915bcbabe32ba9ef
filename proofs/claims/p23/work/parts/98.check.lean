theorem zCk_0 : zCk 0 = true := by decide +kernel
theorem zA_0 : ∀ m, m < 1 → zCk m = true := zall_step (fun m h => absurd h (Nat.not_lt_zero m)) zCk_0
theorem zCk_1 : zCk 1 = true := by decide +kernel
theorem zA_1 : ∀ m, m < 2 → zCk m = true := zall_step zA_0 zCk_1
theorem zCk_2 : zCk 2 = true := by decide +kernel
theorem zA_2 : ∀ m, m < 3 → zCk m = true := zall_step zA_1 zCk_2
theorem zCk_3 : zCk 3 = true := by decide +kernel
theorem zA_3 : ∀ m, m < 4 → zCk m = true := zall_step zA_2 zCk_3
theorem zCk_4 : zCk 4 = true := by decide +kernel
theorem zA_4 : ∀ m, m < 5 → zCk m = true := zall_step zA_3 zCk_4
theorem zCk_5 : zCk 5 = true := by decide +kernel
theorem zA_5 : ∀ m, m < 6 → zCk m = true := zall_step zA_4 zCk_5
theorem zCk_6 : zCk 6 = true := by decide +kernel
theorem zA_6 : ∀ m, m < 7 → zCk m = true := zall_step zA_5 zCk_6
theorem zCk_7 : zCk 7 = true := by decide +kernel
theorem zA_7 : ∀ m, m < 8 → zCk m = true := zall_step zA_6 zCk_7
theorem zCk_8 : zCk 8 = true := by decide +kernel
theorem zA_8 : ∀ m, m < 9 → zCk m = true := zall_step zA_7 zCk_8
theorem zCk_9_0 : zChk (zMo 9) (zMb 9) 0 zC_9_0 = true := by decide +kernel
theorem zCk_9_1 : zChk (zMo 9) (zMb 9) 150 zC_9_1 = true := by decide +kernel
theorem zCk_9 : zCk 9 = true := zCk_of (l := zC_9_0 ++ (zC_9_1)) rfl (zChk_app (by decide +kernel) zCk_9_0 zCk_9_1)
theorem zA_9 : ∀ m, m < 10 → zCk m = true := zall_step zA_8 zCk_9
theorem zCk_10 : zCk 10 = true := by decide +kernel
theorem zA_10 : ∀ m, m < 11 → zCk m = true := zall_step zA_9 zCk_10
theorem zCk_11 : zCk 11 = true := by decide +kernel
theorem zA_11 : ∀ m, m < 12 → zCk m = true := zall_step zA_10 zCk_11
theorem zCk_12 : zCk 12 = true := by decide +kernel
theorem zA_12 : ∀ m, m < 13 → zCk m = true := zall_step zA_11 zCk_12
theorem zCk_13_0 : zChk (zMo 13) (zMb 13) 0 zC_13_0 = true := by decide +kernel
theorem zCk_13_1 : zChk (zMo 13) (zMb 13) 150 zC_13_1 = true := by decide +kernel
theorem zCk_13 : zCk 13 = true := zCk_of (l := zC_13_0 ++ (zC_13_1)) rfl (zChk_app (by decide +kernel) zCk_13_0 zCk_13_1)
theorem zA_13 : ∀ m, m < 14 → zCk m = true := zall_step zA_12 zCk_13
theorem zCk_14 : zCk 14 = true := by decide +kernel
theorem zA_14 : ∀ m, m < 15 → zCk m = true := zall_step zA_13 zCk_14
theorem zCk_15 : zCk 15 = true := by decide +kernel
theorem zA_15 : ∀ m, m < 16 → zCk m = true := zall_step zA_14 zCk_15
theorem zCk_16 : zCk 16 = true := by decide +kernel
theorem zA_16 : ∀ m, m < 17 → zCk m = true := zall_step zA_15 zCk_16
theorem zCk_17 : zCk 17 = true := by decide +kernel
theorem zA_17 : ∀ m, m < 18 → zCk m = true := zall_step zA_16 zCk_17
theorem zCk_18 : zCk 18 = true := by decide +kernel
theorem zA_18 : ∀ m, m < 19 → zCk m = true := zall_step zA_17 zCk_18
theorem zCk_19 : zCk 19 = true := by decide +kernel
theorem zA_19 : ∀ m, m < 20 → zCk m = true := zall_step zA_18 zCk_19
theorem zCk_20 : zCk 20 = true := by decide +kernel
theorem zA_20 : ∀ m, m < 21 → zCk m = true := zall_step zA_19 zCk_20
theorem zCk_21 : zCk 21 = true := by decide +kernel
theorem zA_21 : ∀ m, m < 22 → zCk m = true := zall_step zA_20 zCk_21
theorem zCk_22_0 : zChk (zMo 22) (zMb 22) 0 zC_22_0 = true := by decide +kernel
theorem zCk_22_1 : zChk (zMo 22) (zMb 22) 150 zC_22_1 = true := by decide +kernel
theorem zCk_22 : zCk 22 = true := zCk_of (l := zC_22_0 ++ (zC_22_1)) rfl (zChk_app (by decide +kernel) zCk_22_0 zCk_22_1)
theorem zA_22 : ∀ m, m < 23 → zCk m = true := zall_step zA_21 zCk_22
theorem zCk_23 : zCk 23 = true := by decide +kernel
theorem zA_23 : ∀ m, m < 24 → zCk m = true := zall_step zA_22 zCk_23
theorem zCk_24 : zCk 24 = true := by decide +kernel
theorem zA_24 : ∀ m, m < 25 → zCk m = true := zall_step zA_23 zCk_24
theorem zCk_25 : zCk 25 = true := by decide +kernel
theorem zA_25 : ∀ m, m < 26 → zCk m = true := zall_step zA_24 zCk_25
theorem zCk_26 : zCk 26 = true := by decide +kernel
theorem zA_26 : ∀ m, m < 27 → zCk m = true := zall_step zA_25 zCk_26
theorem zCk_27 : zCk 27 = true := by decide +kernel
theorem zA_27 : ∀ m, m < 28 → zCk m = true := zall_step zA_26 zCk_27
theorem zCk_28 : zCk 28 = true := by decide +kernel
theorem zA_28 : ∀ m, m < 29 → zCk m = true := zall_step zA_27 zCk_28
theorem zCk_29 : zCk 29 = true := by decide +kernel
theorem zA_29 : ∀ m, m < 30 → zCk m = true := zall_step zA_28 zCk_29
theorem zCk_30 : zCk 30 = true := by decide +kernel
theorem zA_30 : ∀ m, m < 31 → zCk m = true := zall_step zA_29 zCk_30
theorem zCk_31 : zCk 31 = true := by decide +kernel
theorem zA_31 : ∀ m, m < 32 → zCk m = true := zall_step zA_30 zCk_31
theorem zCk_32 : zCk 32 = true := by decide +kernel
theorem zA_32 : ∀ m, m < 33 → zCk m = true := zall_step zA_31 zCk_32
theorem zCk_33 : zCk 33 = true := by decide +kernel
theorem zA_33 : ∀ m, m < 34 → zCk m = true := zall_step zA_32 zCk_33
theorem zCk_34 : zCk 34 = true := by decide +kernel
theorem zA_34 : ∀ m, m < 35 → zCk m = true := zall_step zA_33 zCk_34
theorem zCk_35 : zCk 35 = true := by decide +kernel
theorem zA_35 : ∀ m, m < 36 → zCk m = true := zall_step zA_34 zCk_35
theorem zCk_36 : zCk 36 = true := by decide +kernel
theorem zA_36 : ∀ m, m < 37 → zCk m = true := zall_step zA_35 zCk_36
theorem zCk_37 : zCk 37 = true := by decide +kernel
theorem zA_37 : ∀ m, m < 38 → zCk m = true := zall_step zA_36 zCk_37
theorem zCk_38 : zCk 38 = true := by decide +kernel
theorem zA_38 : ∀ m, m < 39 → zCk m = true := zall_step zA_37 zCk_38
theorem zCk_39 : zCk 39 = true := by decide +kernel
theorem zA_39 : ∀ m, m < 40 → zCk m = true := zall_step zA_38 zCk_39
theorem zCk_40 : zCk 40 = true := by decide +kernel
theorem zA_40 : ∀ m, m < 41 → zCk m = true := zall_step zA_39 zCk_40
theorem zCk_41 : zCk 41 = true := by decide +kernel
theorem zA_41 : ∀ m, m < 42 → zCk m = true := zall_step zA_40 zCk_41
theorem zCk_42 : zCk 42 = true := by decide +kernel
theorem zA_42 : ∀ m, m < 43 → zCk m = true := zall_step zA_41 zCk_42
theorem zCk_43 : zCk 43 = true := by decide +kernel
theorem zA_43 : ∀ m, m < 44 → zCk m = true := zall_step zA_42 zCk_43
theorem zCk_44 : zCk 44 = true := by decide +kernel
theorem zA_44 : ∀ m, m < 45 → zCk m = true := zall_step zA_43 zCk_44
theorem zCk_45 : zCk 45 = true := by decide +kernel
theorem zA_45 : ∀ m, m < 46 → zCk m = true := zall_step zA_44 zCk_45
theorem zCk_46 : zCk 46 = true := by decide +kernel
theorem zA_46 : ∀ m, m < 47 → zCk m = true := zall_step zA_45 zCk_46
theorem zCk_47 : zCk 47 = true := by decide +kernel
theorem zA_47 : ∀ m, m < 48 → zCk m = true := zall_step zA_46 zCk_47
theorem zCk_48 : zCk 48 = true := by decide +kernel
theorem zA_48 : ∀ m, m < 49 → zCk m = true := zall_step zA_47 zCk_48
theorem zCk_49 : zCk 49 = true := by decide +kernel
theorem zA_49 : ∀ m, m < 50 → zCk m = true := zall_step zA_48 zCk_49
theorem zCk_50 : zCk 50 = true := by decide +kernel
theorem zA_50 : ∀ m, m < 51 → zCk m = true := zall_step zA_49 zCk_50
theorem zCk_51 : zCk 51 = true := by decide +kernel
theorem zA_51 : ∀ m, m < 52 → zCk m = true := zall_step zA_50 zCk_51
theorem zCk_52 : zCk 52 = true := by decide +kernel
theorem zA_52 : ∀ m, m < 53 → zCk m = true := zall_step zA_51 zCk_52
theorem zCk_53 : zCk 53 = true := by decide +kernel
theorem zA_53 : ∀ m, m < 54 → zCk m = true := zall_step zA_52 zCk_53
theorem zCk_54 : zCk 54 = true := by decide +kernel
theorem zA_54 : ∀ m, m < 55 → zCk m = true := zall_step zA_53 zCk_54
theorem zCk_55 : zCk 55 = true := by decide +kernel
theorem zA_55 : ∀ m, m < 56 → zCk m = true := zall_step zA_54 zCk_55
theorem zCk_56 : zCk 56 = true := by decide +kernel
theorem zA_56 : ∀ m, m < 57 → zCk m = true := zall_step zA_55 zCk_56
theorem zCk_57 : zCk 57 = true := by decide +kernel
theorem zA_57 : ∀ m, m < 58 → zCk m = true := zall_step zA_56 zCk_57
theorem zCk_58 : zCk 58 = true := by decide +kernel
theorem zA_58 : ∀ m, m < 59 → zCk m = true := zall_step zA_57 zCk_58
theorem zCk_59 : zCk 59 = true := by decide +kernel
theorem zA_59 : ∀ m, m < 60 → zCk m = true := zall_step zA_58 zCk_59
theorem zCk_60 : zCk 60 = true := by decide +kernel
theorem zA_60 : ∀ m, m < 61 → zCk m = true := zall_step zA_59 zCk_60
theorem zCk_61 : zCk 61 = true := by decide +kernel
theorem zA_61 : ∀ m, m < 62 → zCk m = true := zall_step zA_60 zCk_61
theorem zCk_62 : zCk 62 = true := by decide +kernel
theorem zA_62 : ∀ m, m < 63 → zCk m = true := zall_step zA_61 zCk_62
theorem zCk_63 : zCk 63 = true := by decide +kernel
theorem zA_63 : ∀ m, m < 64 → zCk m = true := zall_step zA_62 zCk_63
theorem zCk_64 : zCk 64 = true := by decide +kernel
theorem zA_64 : ∀ m, m < 65 → zCk m = true := zall_step zA_63 zCk_64
theorem zCk_65 : zCk 65 = true := by decide +kernel
theorem zA_65 : ∀ m, m < 66 → zCk m = true := zall_step zA_64 zCk_65
theorem zCk_66 : zCk 66 = true := by decide +kernel
theorem zA_66 : ∀ m, m < 67 → zCk m = true := zall_step zA_65 zCk_66
theorem zCk_67 : zCk 67 = true := by decide +kernel
theorem zA_67 : ∀ m, m < 68 → zCk m = true := zall_step zA_66 zCk_67
theorem zCk_68 : zCk 68 = true := by decide +kernel
theorem zA_68 : ∀ m, m < 69 → zCk m = true := zall_step zA_67 zCk_68
theorem zCk_69 : zCk 69 = true := by decide +kernel
theorem zA_69 : ∀ m, m < 70 → zCk m = true := zall_step zA_68 zCk_69
theorem zCk_70 : zCk 70 = true := by decide +kernel
theorem zA_70 : ∀ m, m < 71 → zCk m = true := zall_step zA_69 zCk_70
theorem zCk_71 : zCk 71 = true := by decide +kernel
theorem zA_71 : ∀ m, m < 72 → zCk m = true := zall_step zA_70 zCk_71
theorem zCk_72 : zCk 72 = true := by decide +kernel
theorem zA_72 : ∀ m, m < 73 → zCk m = true := zall_step zA_71 zCk_72
theorem zCk_73 : zCk 73 = true := by decide +kernel
theorem zA_73 : ∀ m, m < 74 → zCk m = true := zall_step zA_72 zCk_73
theorem zCk_74 : zCk 74 = true := by decide +kernel
theorem zA_74 : ∀ m, m < 75 → zCk m = true := zall_step zA_73 zCk_74
theorem zCk_75 : zCk 75 = true := by decide +kernel
theorem zA_75 : ∀ m, m < 76 → zCk m = true := zall_step zA_74 zCk_75
theorem zCk_76 : zCk 76 = true := by decide +kernel
theorem zA_76 : ∀ m, m < 77 → zCk m = true := zall_step zA_75 zCk_76
theorem zCk_77 : zCk 77 = true := by decide +kernel
theorem zA_77 : ∀ m, m < 78 → zCk m = true := zall_step zA_76 zCk_77
theorem zCk_78 : zCk 78 = true := by decide +kernel
theorem zA_78 : ∀ m, m < 79 → zCk m = true := zall_step zA_77 zCk_78
theorem zCk_79 : zCk 79 = true := by decide +kernel
theorem zA_79 : ∀ m, m < 80 → zCk m = true := zall_step zA_78 zCk_79
theorem zCk_80 : zCk 80 = true := by decide +kernel
theorem zA_80 : ∀ m, m < 81 → zCk m = true := zall_step zA_79 zCk_80
theorem zCk_81 : zCk 81 = true := by decide +kernel
theorem zA_81 : ∀ m, m < 82 → zCk m = true := zall_step zA_80 zCk_81
theorem zCk_82 : zCk 82 = true := by decide +kernel
theorem zA_82 : ∀ m, m < 83 → zCk m = true := zall_step zA_81 zCk_82
theorem zCk_83 : zCk 83 = true := by decide +kernel
theorem zA_83 : ∀ m, m < 84 → zCk m = true := zall_step zA_82 zCk_83
theorem zCk_84 : zCk 84 = true := by decide +kernel
theorem zA_84 : ∀ m, m < 85 → zCk m = true := zall_step zA_83 zCk_84
theorem zCk_85 : zCk 85 = true := by decide +kernel
theorem zA_85 : ∀ m, m < 86 → zCk m = true := zall_step zA_84 zCk_85
theorem zCk_86 : zCk 86 = true := by decide +kernel
theorem zA_86 : ∀ m, m < 87 → zCk m = true := zall_step zA_85 zCk_86
theorem zCk_87 : zCk 87 = true := by decide +kernel
theorem zA_87 : ∀ m, m < 88 → zCk m = true := zall_step zA_86 zCk_87
theorem zCk_88 : zCk 88 = true := by decide +kernel
theorem zA_88 : ∀ m, m < 89 → zCk m = true := zall_step zA_87 zCk_88
theorem zCk_89 : zCk 89 = true := by decide +kernel
theorem zA_89 : ∀ m, m < 90 → zCk m = true := zall_step zA_88 zCk_89
theorem zCk_90 : zCk 90 = true := by decide +kernel
theorem zA_90 : ∀ m, m < 91 → zCk m = true := zall_step zA_89 zCk_90
theorem zCk_91 : zCk 91 = true := by decide +kernel
theorem zA_91 : ∀ m, m < 92 → zCk m = true := zall_step zA_90 zCk_91
theorem zCk_92 : zCk 92 = true := by decide +kernel
theorem zA_92 : ∀ m, m < 93 → zCk m = true := zall_step zA_91 zCk_92
theorem zCk_93 : zCk 93 = true := by decide +kernel
theorem zA_93 : ∀ m, m < 94 → zCk m = true := zall_step zA_92 zCk_93
theorem zCk_94 : zCk 94 = true := by decide +kernel
theorem zA_94 : ∀ m, m < 95 → zCk m = true := zall_step zA_93 zCk_94
theorem zCk_95 : zCk 95 = true := by decide +kernel
theorem zA_95 : ∀ m, m < 96 → zCk m = true := zall_step zA_94 zCk_95
theorem zCk_96 : zCk 96 = true := by decide +kernel
theorem zA_96 : ∀ m, m < 97 → zCk m = true := zall_step zA_95 zCk_96
theorem zCk_97_0 : zChk (zMo 97) (zMb 97) 0 zC_97_0 = true := by decide +kernel
theorem zCk_97_1 : zChk (zMo 97) (zMb 97) 150 zC_97_1 = true := by decide +kernel
theorem zCk_97 : zCk 97 = true := zCk_of (l := zC_97_0 ++ (zC_97_1)) rfl (zChk_app (by decide +kernel) zCk_97_0 zCk_97_1)
theorem zA_97 : ∀ m, m < 98 → zCk m = true := zall_step zA_96 zCk_97
theorem zCk_98 : zCk 98 = true := by decide +kernel
theorem zA_98 : ∀ m, m < 99 → zCk m = true := zall_step zA_97 zCk_98
theorem zCk_99 : zCk 99 = true := by decide +kernel
theorem zA_99 : ∀ m, m < 100 → zCk m = true := zall_step zA_98 zCk_99
theorem zCk_100 : zCk 100 = true := by decide +kernel
theorem zA_100 : ∀ m, m < 101 → zCk m = true := zall_step zA_99 zCk_100
theorem zCk_101 : zCk 101 = true := by decide +kernel
theorem zA_101 : ∀ m, m < 102 → zCk m = true := zall_step zA_100 zCk_101
theorem zCk_102 : zCk 102 = true := by decide +kernel
theorem zA_102 : ∀ m, m < 103 → zCk m = true := zall_step zA_101 zCk_102
theorem zCk_103 : zCk 103 = true := by decide +kernel
theorem zA_103 : ∀ m, m < 104 → zCk m = true := zall_step zA_102 zCk_103
theorem zCk_104_0 : zChk (zMo 104) (zMb 104) 0 zC_104_0 = true := by decide +kernel
theorem zCk_104_1 : zChk (zMo 104) (zMb 104) 150 zC_104_1 = true := by decide +kernel
theorem zCk_104 : zCk 104 = true := zCk_of (l := zC_104_0 ++ (zC_104_1)) rfl (zChk_app (by decide +kernel) zCk_104_0 zCk_104_1)
theorem zA_104 : ∀ m, m < 105 → zCk m = true := zall_step zA_103 zCk_104
theorem zCk_105 : zCk 105 = true := by decide +kernel
theorem zA_105 : ∀ m, m < 106 → zCk m = true := zall_step zA_104 zCk_105
theorem zCk_106 : zCk 106 = true := by decide +kernel
theorem zA_106 : ∀ m, m < 107 → zCk m = true := zall_step zA_105 zCk_106
theorem zCk_107 : zCk 107 = true := by decide +kernel
theorem zA_107 : ∀ m, m < 108 → zCk m = true := zall_step zA_106 zCk_107
theorem zCk_108 : zCk 108 = true := by decide +kernel
theorem zA_108 : ∀ m, m < 109 → zCk m = true := zall_step zA_107 zCk_108
theorem zCk_109 : zCk 109 = true := by decide +kernel
theorem zA_109 : ∀ m, m < 110 → zCk m = true := zall_step zA_108 zCk_109
theorem zCk_110 : zCk 110 = true := by decide +kernel
theorem zA_110 : ∀ m, m < 111 → zCk m = true := zall_step zA_109 zCk_110
theorem zCk_111 : zCk 111 = true := by decide +kernel
theorem zA_111 : ∀ m, m < 112 → zCk m = true := zall_step zA_110 zCk_111
theorem zCk_112_0 : zChk (zMo 112) (zMb 112) 0 zC_112_0 = true := by decide +kernel
theorem zCk_112_1 : zChk (zMo 112) (zMb 112) 150 zC_112_1 = true := by decide +kernel
theorem zCk_112 : zCk 112 = true := zCk_of (l := zC_112_0 ++ (zC_112_1)) rfl (zChk_app (by decide +kernel) zCk_112_0 zCk_112_1)
theorem zA_112 : ∀ m, m < 113 → zCk m = true := zall_step zA_111 zCk_112
theorem zCk_113 : zCk 113 = true := by decide +kernel
theorem zA_113 : ∀ m, m < 114 → zCk m = true := zall_step zA_112 zCk_113
theorem zCk_114 : zCk 114 = true := by decide +kernel
theorem zA_114 : ∀ m, m < 115 → zCk m = true := zall_step zA_113 zCk_114
theorem zCk_115 : zCk 115 = true := by decide +kernel
theorem zA_115 : ∀ m, m < 116 → zCk m = true := zall_step zA_114 zCk_115
theorem zCk_116 : zCk 116 = true := by decide +kernel
theorem zA_116 : ∀ m, m < 117 → zCk m = true := zall_step zA_115 zCk_116
theorem zCk_117 : zCk 117 = true := by decide +kernel
theorem zA_117 : ∀ m, m < 118 → zCk m = true := zall_step zA_116 zCk_117
theorem zCk_118 : zCk 118 = true := by decide +kernel
theorem zA_118 : ∀ m, m < 119 → zCk m = true := zall_step zA_117 zCk_118
theorem zCk_119 : zCk 119 = true := by decide +kernel
theorem zA_119 : ∀ m, m < 120 → zCk m = true := zall_step zA_118 zCk_119
theorem zCk_120 : zCk 120 = true := by decide +kernel
theorem zA_120 : ∀ m, m < 121 → zCk m = true := zall_step zA_119 zCk_120
theorem zCk_121 : zCk 121 = true := by decide +kernel
theorem zA_121 : ∀ m, m < 122 → zCk m = true := zall_step zA_120 zCk_121
theorem zCk_122_0 : zChk (zMo 122) (zMb 122) 0 zC_122_0 = true := by decide +kernel
theorem zCk_122_1 : zChk (zMo 122) (zMb 122) 150 zC_122_1 = true := by decide +kernel
theorem zCk_122_2 : zChk (zMo 122) (zMb 122) 300 zC_122_2 = true := by decide +kernel
theorem zCk_122 : zCk 122 = true := zCk_of (l := zC_122_0 ++ (zC_122_1 ++ (zC_122_2))) rfl (zChk_app (by decide +kernel) zCk_122_0 (zChk_app (by decide +kernel) zCk_122_1 zCk_122_2))
theorem zA_122 : ∀ m, m < 123 → zCk m = true := zall_step zA_121 zCk_122
theorem zCk_123 : zCk 123 = true := by decide +kernel
theorem zA_123 : ∀ m, m < 124 → zCk m = true := zall_step zA_122 zCk_123
theorem zCk_124 : zCk 124 = true := by decide +kernel
theorem zA_124 : ∀ m, m < 125 → zCk m = true := zall_step zA_123 zCk_124
theorem zCk_125 : zCk 125 = true := by decide +kernel
theorem zA_125 : ∀ m, m < 126 → zCk m = true := zall_step zA_124 zCk_125
theorem zCk_126 : zCk 126 = true := by decide +kernel
theorem zA_126 : ∀ m, m < 127 → zCk m = true := zall_step zA_125 zCk_126
theorem zCk_127 : zCk 127 = true := by decide +kernel
theorem zA_127 : ∀ m, m < 128 → zCk m = true := zall_step zA_126 zCk_127
theorem zCk_128 : zCk 128 = true := by decide +kernel
theorem zA_128 : ∀ m, m < 129 → zCk m = true := zall_step zA_127 zCk_128
theorem zCk_129 : zCk 129 = true := by decide +kernel
theorem zA_129 : ∀ m, m < 130 → zCk m = true := zall_step zA_128 zCk_129
theorem zCk_130 : zCk 130 = true := by decide +kernel
theorem zA_130 : ∀ m, m < 131 → zCk m = true := zall_step zA_129 zCk_130
theorem zCk_131 : zCk 131 = true := by decide +kernel
theorem zA_131 : ∀ m, m < 132 → zCk m = true := zall_step zA_130 zCk_131
theorem zCk_132 : zCk 132 = true := by decide +kernel
theorem zA_132 : ∀ m, m < 133 → zCk m = true := zall_step zA_131 zCk_132
theorem zCk_133 : zCk 133 = true := by decide +kernel
theorem zA_133 : ∀ m, m < 134 → zCk m = true := zall_step zA_132 zCk_133
theorem zCk_134 : zCk 134 = true := by decide +kernel
theorem zA_134 : ∀ m, m < 135 → zCk m = true := zall_step zA_133 zCk_134
theorem zCk_135 : zCk 135 = true := by decide +kernel
theorem zA_135 : ∀ m, m < 136 → zCk m = true := zall_step zA_134 zCk_135
theorem zCk_136 : zCk 136 = true := by decide +kernel
theorem zA_136 : ∀ m, m < 137 → zCk m = true := zall_step zA_135 zCk_136
theorem zCk_137_0 : zChk (zMo 137) (zMb 137) 0 zC_137_0 = true := by decide +kernel
theorem zCk_137_1 : zChk (zMo 137) (zMb 137) 150 zC_137_1 = true := by decide +kernel
theorem zCk_137 : zCk 137 = true := zCk_of (l := zC_137_0 ++ (zC_137_1)) rfl (zChk_app (by decide +kernel) zCk_137_0 zCk_137_1)
theorem zA_137 : ∀ m, m < 138 → zCk m = true := zall_step zA_136 zCk_137
theorem zCk_138 : zCk 138 = true := by decide +kernel
theorem zA_138 : ∀ m, m < 139 → zCk m = true := zall_step zA_137 zCk_138
theorem zCk_139 : zCk 139 = true := by decide +kernel
theorem zA_139 : ∀ m, m < 140 → zCk m = true := zall_step zA_138 zCk_139
theorem zCk_140 : zCk 140 = true := by decide +kernel
theorem zA_140 : ∀ m, m < 141 → zCk m = true := zall_step zA_139 zCk_140
theorem zCk_141 : zCk 141 = true := by decide +kernel
theorem zA_141 : ∀ m, m < 142 → zCk m = true := zall_step zA_140 zCk_141
theorem zCk_142 : zCk 142 = true := by decide +kernel
theorem zA_142 : ∀ m, m < 143 → zCk m = true := zall_step zA_141 zCk_142
theorem zCk_143 : zCk 143 = true := by decide +kernel
theorem zA_143 : ∀ m, m < 144 → zCk m = true := zall_step zA_142 zCk_143
theorem zCk_144_0 : zChk (zMo 144) (zMb 144) 0 zC_144_0 = true := by decide +kernel
theorem zCk_144_1 : zChk (zMo 144) (zMb 144) 150 zC_144_1 = true := by decide +kernel
theorem zCk_144 : zCk 144 = true := zCk_of (l := zC_144_0 ++ (zC_144_1)) rfl (zChk_app (by decide +kernel) zCk_144_0 zCk_144_1)
theorem zA_144 : ∀ m, m < 145 → zCk m = true := zall_step zA_143 zCk_144
theorem zCk_145 : zCk 145 = true := by decide +kernel
theorem zA_145 : ∀ m, m < 146 → zCk m = true := zall_step zA_144 zCk_145
theorem zCk_146 : zCk 146 = true := by decide +kernel
theorem zA_146 : ∀ m, m < 147 → zCk m = true := zall_step zA_145 zCk_146
theorem zCk_147 : zCk 147 = true := by decide +kernel
theorem zA_147 : ∀ m, m < 148 → zCk m = true := zall_step zA_146 zCk_147
theorem zCk_148 : zCk 148 = true := by decide +kernel
theorem zA_148 : ∀ m, m < 149 → zCk m = true := zall_step zA_147 zCk_148
theorem zCk_149 : zCk 149 = true := by decide +kernel
theorem zA_149 : ∀ m, m < 150 → zCk m = true := zall_step zA_148 zCk_149
theorem zCk_150_0 : zChk (zMo 150) (zMb 150) 0 zC_150_0 = true := by decide +kernel
theorem zCk_150_1 : zChk (zMo 150) (zMb 150) 150 zC_150_1 = true := by decide +kernel
theorem zCk_150 : zCk 150 = true := zCk_of (l := zC_150_0 ++ (zC_150_1)) rfl (zChk_app (by decide +kernel) zCk_150_0 zCk_150_1)
theorem zA_150 : ∀ m, m < 151 → zCk m = true := zall_step zA_149 zCk_150
theorem zCk_151 : zCk 151 = true := by decide +kernel
theorem zA_151 : ∀ m, m < 152 → zCk m = true := zall_step zA_150 zCk_151
theorem zCk_152 : zCk 152 = true := by decide +kernel
theorem zA_152 : ∀ m, m < 153 → zCk m = true := zall_step zA_151 zCk_152
theorem zCk_153 : zCk 153 = true := by decide +kernel
theorem zA_153 : ∀ m, m < 154 → zCk m = true := zall_step zA_152 zCk_153
theorem zCk_154_0 : zChk (zMo 154) (zMb 154) 0 zC_154_0 = true := by decide +kernel
theorem zCk_154_1 : zChk (zMo 154) (zMb 154) 150 zC_154_1 = true := by decide +kernel
theorem zCk_154_2 : zChk (zMo 154) (zMb 154) 300 zC_154_2 = true := by decide +kernel
theorem zCk_154_3 : zChk (zMo 154) (zMb 154) 450 zC_154_3 = true := by decide +kernel
theorem zCk_154 : zCk 154 = true := zCk_of (l := zC_154_0 ++ (zC_154_1 ++ (zC_154_2 ++ (zC_154_3)))) rfl (zChk_app (by decide +kernel) zCk_154_0 (zChk_app (by decide +kernel) zCk_154_1 (zChk_app (by decide +kernel) zCk_154_2 zCk_154_3)))
theorem zA_154 : ∀ m, m < 155 → zCk m = true := zall_step zA_153 zCk_154
theorem zCk_155 : zCk 155 = true := by decide +kernel
theorem zA_155 : ∀ m, m < 156 → zCk m = true := zall_step zA_154 zCk_155
theorem zCk_156 : zCk 156 = true := by decide +kernel
theorem zA_156 : ∀ m, m < 157 → zCk m = true := zall_step zA_155 zCk_156
theorem zCk_157 : zCk 157 = true := by decide +kernel
theorem zA_157 : ∀ m, m < 158 → zCk m = true := zall_step zA_156 zCk_157
theorem zCk_158 : zCk 158 = true := by decide +kernel
theorem zA_158 : ∀ m, m < 159 → zCk m = true := zall_step zA_157 zCk_158
theorem zCk_159 : zCk 159 = true := by decide +kernel
theorem zA_159 : ∀ m, m < 160 → zCk m = true := zall_step zA_158 zCk_159
theorem zCk_160 : zCk 160 = true := by decide +kernel
theorem zA_160 : ∀ m, m < 161 → zCk m = true := zall_step zA_159 zCk_160
theorem zCk_161 : zCk 161 = true := by decide +kernel
theorem zA_161 : ∀ m, m < 162 → zCk m = true := zall_step zA_160 zCk_161
theorem zCk_162_0 : zChk (zMo 162) (zMb 162) 0 zC_162_0 = true := by decide +kernel
theorem zCk_162_1 : zChk (zMo 162) (zMb 162) 150 zC_162_1 = true := by decide +kernel
theorem zCk_162 : zCk 162 = true := zCk_of (l := zC_162_0 ++ (zC_162_1)) rfl (zChk_app (by decide +kernel) zCk_162_0 zCk_162_1)
theorem zA_162 : ∀ m, m < 163 → zCk m = true := zall_step zA_161 zCk_162
theorem zCk_163 : zCk 163 = true := by decide +kernel
theorem zA_163 : ∀ m, m < 164 → zCk m = true := zall_step zA_162 zCk_163
theorem zCk_164_0 : zChk (zMo 164) (zMb 164) 0 zC_164_0 = true := by decide +kernel
theorem zCk_164_1 : zChk (zMo 164) (zMb 164) 150 zC_164_1 = true := by decide +kernel
theorem zCk_164 : zCk 164 = true := zCk_of (l := zC_164_0 ++ (zC_164_1)) rfl (zChk_app (by decide +kernel) zCk_164_0 zCk_164_1)
theorem zA_164 : ∀ m, m < 165 → zCk m = true := zall_step zA_163 zCk_164
theorem zCk_165 : zCk 165 = true := by decide +kernel
theorem zA_165 : ∀ m, m < 166 → zCk m = true := zall_step zA_164 zCk_165
theorem zCk_166 : zCk 166 = true := by decide +kernel
theorem zA_166 : ∀ m, m < 167 → zCk m = true := zall_step zA_165 zCk_166
theorem zCk_167 : zCk 167 = true := by decide +kernel
theorem zA_167 : ∀ m, m < 168 → zCk m = true := zall_step zA_166 zCk_167
theorem zCk_168_0 : zChk (zMo 168) (zMb 168) 0 zC_168_0 = true := by decide +kernel
theorem zCk_168_1 : zChk (zMo 168) (zMb 168) 150 zC_168_1 = true := by decide +kernel
theorem zCk_168 : zCk 168 = true := zCk_of (l := zC_168_0 ++ (zC_168_1)) rfl (zChk_app (by decide +kernel) zCk_168_0 zCk_168_1)
theorem zA_168 : ∀ m, m < 169 → zCk m = true := zall_step zA_167 zCk_168
theorem zCk_169 : zCk 169 = true := by decide +kernel
theorem zA_169 : ∀ m, m < 170 → zCk m = true := zall_step zA_168 zCk_169
theorem zCk_170_0 : zChk (zMo 170) (zMb 170) 0 zC_170_0 = true := by decide +kernel
theorem zCk_170_1 : zChk (zMo 170) (zMb 170) 150 zC_170_1 = true := by decide +kernel
theorem zCk_170 : zCk 170 = true := zCk_of (l := zC_170_0 ++ (zC_170_1)) rfl (zChk_app (by decide +kernel) zCk_170_0 zCk_170_1)
theorem zA_170 : ∀ m, m < 171 → zCk m = true := zall_step zA_169 zCk_170
theorem zCk_171 : zCk 171 = true := by decide +kernel
theorem zA_171 : ∀ m, m < 172 → zCk m = true := zall_step zA_170 zCk_171
theorem zCk_172_0 : zChk (zMo 172) (zMb 172) 0 zC_172_0 = true := by decide +kernel
theorem zCk_172_1 : zChk (zMo 172) (zMb 172) 150 zC_172_1 = true := by decide +kernel
theorem zCk_172 : zCk 172 = true := zCk_of (l := zC_172_0 ++ (zC_172_1)) rfl (zChk_app (by decide +kernel) zCk_172_0 zCk_172_1)
theorem zA_172 : ∀ m, m < 173 → zCk m = true := zall_step zA_171 zCk_172
theorem zCk_173 : zCk 173 = true := by decide +kernel
theorem zA_173 : ∀ m, m < 174 → zCk m = true := zall_step zA_172 zCk_173
theorem zCk_174 : zCk 174 = true := by decide +kernel
theorem zA_174 : ∀ m, m < 175 → zCk m = true := zall_step zA_173 zCk_174
theorem zCk_175_0 : zChk (zMo 175) (zMb 175) 0 zC_175_0 = true := by decide +kernel
theorem zCk_175_1 : zChk (zMo 175) (zMb 175) 150 zC_175_1 = true := by decide +kernel
theorem zCk_175_2 : zChk (zMo 175) (zMb 175) 300 zC_175_2 = true := by decide +kernel
theorem zCk_175_3 : zChk (zMo 175) (zMb 175) 450 zC_175_3 = true := by decide +kernel
theorem zCk_175 : zCk 175 = true := zCk_of (l := zC_175_0 ++ (zC_175_1 ++ (zC_175_2 ++ (zC_175_3)))) rfl (zChk_app (by decide +kernel) zCk_175_0 (zChk_app (by decide +kernel) zCk_175_1 (zChk_app (by decide +kernel) zCk_175_2 zCk_175_3)))
theorem zA_175 : ∀ m, m < 176 → zCk m = true := zall_step zA_174 zCk_175
theorem zCk_176_0 : zChk (zMo 176) (zMb 176) 0 zC_176_0 = true := by decide +kernel
theorem zCk_176_1 : zChk (zMo 176) (zMb 176) 150 zC_176_1 = true := by decide +kernel
theorem zCk_176 : zCk 176 = true := zCk_of (l := zC_176_0 ++ (zC_176_1)) rfl (zChk_app (by decide +kernel) zCk_176_0 zCk_176_1)
theorem zA_176 : ∀ m, m < 177 → zCk m = true := zall_step zA_175 zCk_176
theorem zCk_177_0 : zChk (zMo 177) (zMb 177) 0 zC_177_0 = true := by decide +kernel
theorem zCk_177_1 : zChk (zMo 177) (zMb 177) 150 zC_177_1 = true := by decide +kernel
theorem zCk_177_2 : zChk (zMo 177) (zMb 177) 300 zC_177_2 = true := by decide +kernel
theorem zCk_177_3 : zChk (zMo 177) (zMb 177) 450 zC_177_3 = true := by decide +kernel
theorem zCk_177 : zCk 177 = true := zCk_of (l := zC_177_0 ++ (zC_177_1 ++ (zC_177_2 ++ (zC_177_3)))) rfl (zChk_app (by decide +kernel) zCk_177_0 (zChk_app (by decide +kernel) zCk_177_1 (zChk_app (by decide +kernel) zCk_177_2 zCk_177_3)))
theorem zA_177 : ∀ m, m < 178 → zCk m = true := zall_step zA_176 zCk_177
theorem zCk_178 : zCk 178 = true := by decide +kernel
theorem zA_178 : ∀ m, m < 179 → zCk m = true := zall_step zA_177 zCk_178
theorem zCk_179 : zCk 179 = true := by decide +kernel
theorem zA_179 : ∀ m, m < 180 → zCk m = true := zall_step zA_178 zCk_179
theorem zCk_180_0 : zChk (zMo 180) (zMb 180) 0 zC_180_0 = true := by decide +kernel
theorem zCk_180_1 : zChk (zMo 180) (zMb 180) 150 zC_180_1 = true := by decide +kernel
theorem zCk_180 : zCk 180 = true := zCk_of (l := zC_180_0 ++ (zC_180_1)) rfl (zChk_app (by decide +kernel) zCk_180_0 zCk_180_1)
theorem zA_180 : ∀ m, m < 181 → zCk m = true := zall_step zA_179 zCk_180
theorem zCk_181 : zCk 181 = true := by decide +kernel
theorem zA_181 : ∀ m, m < 182 → zCk m = true := zall_step zA_180 zCk_181
theorem zCk_182_0 : zChk (zMo 182) (zMb 182) 0 zC_182_0 = true := by decide +kernel
theorem zCk_182_1 : zChk (zMo 182) (zMb 182) 150 zC_182_1 = true := by decide +kernel
theorem zCk_182 : zCk 182 = true := zCk_of (l := zC_182_0 ++ (zC_182_1)) rfl (zChk_app (by decide +kernel) zCk_182_0 zCk_182_1)
theorem zA_182 : ∀ m, m < 183 → zCk m = true := zall_step zA_181 zCk_182
theorem zCk_183 : zCk 183 = true := by decide +kernel
theorem zA_183 : ∀ m, m < 184 → zCk m = true := zall_step zA_182 zCk_183
theorem zCk_184 : zCk 184 = true := by decide +kernel
theorem zA_184 : ∀ m, m < 185 → zCk m = true := zall_step zA_183 zCk_184
theorem zCk_185_0 : zChk (zMo 185) (zMb 185) 0 zC_185_0 = true := by decide +kernel
theorem zCk_185_1 : zChk (zMo 185) (zMb 185) 150 zC_185_1 = true := by decide +kernel
theorem zCk_185 : zCk 185 = true := zCk_of (l := zC_185_0 ++ (zC_185_1)) rfl (zChk_app (by decide +kernel) zCk_185_0 zCk_185_1)
theorem zA_185 : ∀ m, m < 186 → zCk m = true := zall_step zA_184 zCk_185
theorem zCk_186 : zCk 186 = true := by decide +kernel
theorem zA_186 : ∀ m, m < 187 → zCk m = true := zall_step zA_185 zCk_186
theorem zCk_187 : zCk 187 = true := by decide +kernel
theorem zA_187 : ∀ m, m < 188 → zCk m = true := zall_step zA_186 zCk_187
theorem zCk_188_0 : zChk (zMo 188) (zMb 188) 0 zC_188_0 = true := by decide +kernel
theorem zCk_188_1 : zChk (zMo 188) (zMb 188) 150 zC_188_1 = true := by decide +kernel
theorem zCk_188 : zCk 188 = true := zCk_of (l := zC_188_0 ++ (zC_188_1)) rfl (zChk_app (by decide +kernel) zCk_188_0 zCk_188_1)
theorem zA_188 : ∀ m, m < 189 → zCk m = true := zall_step zA_187 zCk_188
theorem zCk_189 : zCk 189 = true := by decide +kernel
theorem zA_189 : ∀ m, m < 190 → zCk m = true := zall_step zA_188 zCk_189
theorem zCk_190 : zCk 190 = true := by decide +kernel
theorem zA_190 : ∀ m, m < 191 → zCk m = true := zall_step zA_189 zCk_190
theorem zCk_191_0 : zChk (zMo 191) (zMb 191) 0 zC_191_0 = true := by decide +kernel
theorem zCk_191_1 : zChk (zMo 191) (zMb 191) 150 zC_191_1 = true := by decide +kernel
theorem zCk_191_2 : zChk (zMo 191) (zMb 191) 300 zC_191_2 = true := by decide +kernel
theorem zCk_191_3 : zChk (zMo 191) (zMb 191) 450 zC_191_3 = true := by decide +kernel
theorem zCk_191_4 : zChk (zMo 191) (zMb 191) 600 zC_191_4 = true := by decide +kernel
theorem zCk_191_5 : zChk (zMo 191) (zMb 191) 750 zC_191_5 = true := by decide +kernel
theorem zCk_191_6 : zChk (zMo 191) (zMb 191) 900 zC_191_6 = true := by decide +kernel
theorem zCk_191_7 : zChk (zMo 191) (zMb 191) 1050 zC_191_7 = true := by decide +kernel
theorem zCk_191_8 : zChk (zMo 191) (zMb 191) 1200 zC_191_8 = true := by decide +kernel
theorem zCk_191_9 : zChk (zMo 191) (zMb 191) 1350 zC_191_9 = true := by decide +kernel
theorem zCk_191_10 : zChk (zMo 191) (zMb 191) 1500 zC_191_10 = true := by decide +kernel
theorem zCk_191 : zCk 191 = true := zCk_of (l := zC_191_0 ++ (zC_191_1 ++ (zC_191_2 ++ (zC_191_3 ++ (zC_191_4 ++ (zC_191_5 ++ (zC_191_6 ++ (zC_191_7 ++ (zC_191_8 ++ (zC_191_9 ++ (zC_191_10))))))))))) rfl (zChk_app (by decide +kernel) zCk_191_0 (zChk_app (by decide +kernel) zCk_191_1 (zChk_app (by decide +kernel) zCk_191_2 (zChk_app (by decide +kernel) zCk_191_3 (zChk_app (by decide +kernel) zCk_191_4 (zChk_app (by decide +kernel) zCk_191_5 (zChk_app (by decide +kernel) zCk_191_6 (zChk_app (by decide +kernel) zCk_191_7 (zChk_app (by decide +kernel) zCk_191_8 (zChk_app (by decide +kernel) zCk_191_9 zCk_191_10))))))))))
theorem zA_191 : ∀ m, m < 192 → zCk m = true := zall_step zA_190 zCk_191
theorem zCk_all : ∀ m, m < 192 → zCk m = true := zA_191
