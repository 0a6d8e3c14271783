theorem dM_look_0 : decode cM_look 0 = .ok (.aload_n 0, 1) := by decide +kernel
theorem dM_look_1 : decode cM_look 1 = .ok (.iload_n 1, 1) := by decide +kernel
theorem dM_look_2 : decode cM_look 2 = .ok (.invokestatic 68, 3) := by decide +kernel
theorem dM_look_5 : decode cM_look 5 = .ok (.ifCond .eq 17, 3) := by decide +kernel
theorem dM_look_8 : decode cM_look 8 = .ok (.iload_n 2, 1) := by decide +kernel
theorem dM_look_9 : decode cM_look 9 = .ok (.ifCond .lt 13, 3) := by decide +kernel
theorem dM_look_12 : decode cM_look 12 = .ok (.iload_n 2, 1) := by decide +kernel
theorem dM_look_13 : decode cM_look 13 = .ok (.bipush 6, 2) := by decide +kernel
theorem dM_look_15 : decode cM_look 15 = .ok (.if_icmp .ge 7, 3) := by decide +kernel
theorem dM_look_18 : decode cM_look 18 = .ok (.iconst 0, 1) := by decide +kernel
theorem dM_look_19 : decode cM_look 19 = .ok (.goto 4, 3) := by decide +kernel
theorem dM_look_22 : decode cM_look 22 = .ok (.iconst 1, 1) := by decide +kernel
theorem dM_look_23 : decode cM_look 23 = .ok (.putfield 28, 3) := by decide +kernel
theorem dM_look_26 : decode cM_look 26 = .ok (.aload_n 0, 1) := by decide +kernel
theorem dM_look_27 : decode cM_look 27 = .ok (.getfield 28, 3) := by decide +kernel
theorem dM_look_30 : decode cM_look 30 = .ok (.ifCond .le 5, 3) := by decide +kernel
theorem dM_look_33 : decode cM_look 33 = .ok (.lconst 0, 1) := by decide +kernel
theorem dM_look_34 : decode cM_look 34 = .ok (.lreturn, 1) := by decide +kernel
theorem dM_look_35 : decode cM_look 35 = .ok (.iload_n 2, 1) := by decide +kernel
theorem dM_look_36 : decode cM_look 36 = .ok (.tableswitch 71 0 4 #[36, 43, 50, 57, 64], 36) := by decide +kernel
theorem dM_look_72 : decode cM_look 72 = .ok (.aload_n 0, 1) := by decide +kernel
theorem dM_look_73 : decode cM_look 73 = .ok (.getfield 9, 3) := by decide +kernel
theorem dM_look_76 : decode cM_look 76 = .ok (.iload_n 1, 1) := by decide +kernel
theorem dM_look_77 : decode cM_look 77 = .ok (.laload, 1) := by decide +kernel
theorem dM_look_78 : decode cM_look 78 = .ok (.lreturn, 1) := by decide +kernel
theorem dM_look_79 : decode cM_look 79 = .ok (.aload_n 0, 1) := by decide +kernel
theorem dM_look_80 : decode cM_look 80 = .ok (.getfield 13, 3) := by decide +kernel
theorem dM_look_83 : decode cM_look 83 = .ok (.iload_n 1, 1) := by decide +kernel
theorem dM_look_84 : decode cM_look 84 = .ok (.laload, 1) := by decide +kernel
theorem dM_look_85 : decode cM_look 85 = .ok (.lreturn, 1) := by decide +kernel
theorem dM_look_86 : decode cM_look 86 = .ok (.aload_n 0, 1) := by decide +kernel
theorem dM_look_87 : decode cM_look 87 = .ok (.getfield 16, 3) := by decide +kernel
theorem dM_look_90 : decode cM_look 90 = .ok (.iload_n 1, 1) := by decide +kernel
theorem dM_look_91 : decode cM_look 91 = .ok (.laload, 1) := by decide +kernel
theorem dM_look_92 : decode cM_look 92 = .ok (.lreturn, 1) := by decide +kernel
theorem dM_look_93 : decode cM_look 93 = .ok (.aload_n 0, 1) := by decide +kernel
theorem dM_look_94 : decode cM_look 94 = .ok (.getfield 19, 3) := by decide +kernel
theorem dM_look_97 : decode cM_look 97 = .ok (.iload_n 1, 1) := by decide +kernel
theorem dM_look_98 : decode cM_look 98 = .ok (.laload, 1) := by decide +kernel
theorem dM_look_99 : decode cM_look 99 = .ok (.lreturn, 1) := by decide +kernel
theorem dM_look_100 : decode cM_look 100 = .ok (.aload_n 0, 1) := by decide +kernel
theorem dM_look_101 : decode cM_look 101 = .ok (.getfield 22, 3) := by decide +kernel
theorem dM_look_104 : decode cM_look 104 = .ok (.iload_n 1, 1) := by decide +kernel
theorem dM_look_105 : decode cM_look 105 = .ok (.laload, 1) := by decide +kernel
theorem dM_look_106 : decode cM_look 106 = .ok (.lreturn, 1) := by decide +kernel
theorem dM_look_107 : decode cM_look 107 = .ok (.aload_n 0, 1) := by decide +kernel
theorem dM_look_108 : decode cM_look 108 = .ok (.getfield 25, 3) := by decide +kernel
theorem dM_look_111 : decode cM_look 111 = .ok (.iload_n 1, 1) := by decide +kernel
theorem dM_look_112 : decode cM_look 112 = .ok (.laload, 1) := by decide +kernel
theorem dM_look_113 : decode cM_look 113 = .ok (.lreturn, 1) := by decide +kernel
theorem dM_has_0 : decode cM_has 0 = .ok (.aload_n 0, 1) := by decide +kernel
theorem dM_has_1 : decode cM_has 1 = .ok (.iload_n 1, 1) := by decide +kernel
theorem dM_has_2 : decode cM_has 2 = .ok (.invokestatic 68, 3) := by decide +kernel
theorem dM_has_5 : decode cM_has 5 = .ok (.ifCond .eq 7, 3) := by decide +kernel
theorem dM_has_8 : decode cM_has 8 = .ok (.iconst 0, 1) := by decide +kernel
theorem dM_has_9 : decode cM_has 9 = .ok (.goto 4, 3) := by decide +kernel
theorem dM_has_12 : decode cM_has 12 = .ok (.iconst 1, 1) := by decide +kernel
theorem dM_has_13 : decode cM_has 13 = .ok (.putfield 28, 3) := by decide +kernel
theorem dM_has_16 : decode cM_has 16 = .ok (.aload_n 0, 1) := by decide +kernel
theorem dM_has_17 : decode cM_has 17 = .ok (.getfield 28, 3) := by decide +kernel
theorem dM_has_20 : decode cM_has 20 = .ok (.ifCond .le 5, 3) := by decide +kernel
theorem dM_has_23 : decode cM_has 23 = .ok (.iconst 0, 1) := by decide +kernel
theorem dM_has_24 : decode cM_has 24 = .ok (.ireturn, 1) := by decide +kernel
theorem dM_has_25 : decode cM_has 25 = .ok (.lload_n 2, 1) := by decide +kernel
theorem dM_has_26 : decode cM_has 26 = .ok (.aload_n 0, 1) := by decide +kernel
theorem dM_has_27 : decode cM_has 27 = .ok (.getfield 9, 3) := by decide +kernel
theorem dM_has_30 : decode cM_has 30 = .ok (.iload_n 1, 1) := by decide +kernel
theorem dM_has_31 : decode cM_has 31 = .ok (.laload, 1) := by decide +kernel
theorem dM_has_32 : decode cM_has 32 = .ok (.lxor, 1) := by decide +kernel
theorem dM_has_33 : decode cM_has 33 = .ok (.aload_n 0, 1) := by decide +kernel
theorem dM_has_34 : decode cM_has 34 = .ok (.getfield 13, 3) := by decide +kernel
theorem dM_has_37 : decode cM_has 37 = .ok (.iload_n 1, 1) := by decide +kernel
theorem dM_has_38 : decode cM_has 38 = .ok (.laload, 1) := by decide +kernel
theorem dM_has_39 : decode cM_has 39 = .ok (.ldc2_w 38, 3) := by decide +kernel
theorem dM_has_42 : decode cM_has 42 = .ok (.lxor, 1) := by decide +kernel
theorem dM_has_43 : decode cM_has 43 = .ok (.land, 1) := by decide +kernel
theorem dM_has_44 : decode cM_has 44 = .ok (.lconst 0, 1) := by decide +kernel
theorem dM_has_45 : decode cM_has 45 = .ok (.lcmp, 1) := by decide +kernel
theorem dM_has_46 : decode cM_has 46 = .ok (.ifCond .ne 55, 3) := by decide +kernel
theorem dM_has_49 : decode cM_has 49 = .ok (.lload_n 2, 1) := by decide +kernel
theorem dM_has_50 : decode cM_has 50 = .ok (.aload_n 0, 1) := by decide +kernel
theorem dM_has_51 : decode cM_has 51 = .ok (.getfield 16, 3) := by decide +kernel
theorem dM_has_54 : decode cM_has 54 = .ok (.iload_n 1, 1) := by decide +kernel
theorem dM_has_55 : decode cM_has 55 = .ok (.laload, 1) := by decide +kernel
theorem dM_has_56 : decode cM_has 56 = .ok (.invokestatic 34, 3) := by decide +kernel
theorem dM_has_59 : decode cM_has 59 = .ok (.ifCond .ne 42, 3) := by decide +kernel
theorem dM_has_62 : decode cM_has 62 = .ok (.aload_n 0, 1) := by decide +kernel
theorem dM_has_63 : decode cM_has 63 = .ok (.getfield 19, 3) := by decide +kernel
theorem dM_has_66 : decode cM_has 66 = .ok (.iload_n 1, 1) := by decide +kernel
theorem dM_has_67 : decode cM_has 67 = .ok (.laload, 1) := by decide +kernel
theorem dM_has_68 : decode cM_has 68 = .ok (.lload_n 2, 1) := by decide +kernel
theorem dM_has_69 : decode cM_has 69 = .ok (.invokestatic 34, 3) := by decide +kernel
theorem dM_has_72 : decode cM_has 72 = .ok (.ifCond .ne 29, 3) := by decide +kernel
theorem dM_has_75 : decode cM_has 75 = .ok (.lload_n 2, 1) := by decide +kernel
theorem dM_has_76 : decode cM_has 76 = .ok (.aload_n 0, 1) := by decide +kernel
theorem dM_has_77 : decode cM_has 77 = .ok (.getfield 22, 3) := by decide +kernel
theorem dM_has_80 : decode cM_has 80 = .ok (.iload_n 1, 1) := by decide +kernel
theorem dM_has_81 : decode cM_has 81 = .ok (.laload, 1) := by decide +kernel
theorem dM_has_82 : decode cM_has 82 = .ok (.lcmp, 1) := by decide +kernel
theorem dM_has_83 : decode cM_has 83 = .ok (.ifCond .lt 18, 3) := by decide +kernel
theorem dM_has_86 : decode cM_has 86 = .ok (.lload_n 2, 1) := by decide +kernel
theorem dM_has_87 : decode cM_has 87 = .ok (.aload_n 0, 1) := by decide +kernel
theorem dM_has_88 : decode cM_has 88 = .ok (.getfield 25, 3) := by decide +kernel
theorem dM_has_91 : decode cM_has 91 = .ok (.iload_n 1, 1) := by decide +kernel
theorem dM_has_92 : decode cM_has 92 = .ok (.laload, 1) := by decide +kernel
theorem dM_has_93 : decode cM_has 93 = .ok (.lcmp, 1) := by decide +kernel
theorem dM_has_94 : decode cM_has 94 = .ok (.ifCond .gt 7, 3) := by decide +kernel
theorem dM_has_97 : decode cM_has 97 = .ok (.iconst 1, 1) := by decide +kernel
theorem dM_has_98 : decode cM_has 98 = .ok (.goto 4, 3) := by decide +kernel
theorem dM_has_101 : decode cM_has 101 = .ok (.iconst 0, 1) := by decide +kernel
theorem dM_has_102 : decode cM_has 102 = .ok (.ireturn, 1) := by decide +kernel
theorem dM_covers_0 : decode cM_covers 0 = .ok (.aload_n 0, 1) := by decide +kernel
theorem dM_covers_1 : decode cM_covers 1 = .ok (.iload_n 1, 1) := by decide +kernel
theorem dM_covers_2 : decode cM_covers 2 = .ok (.invokestatic 68, 3) := by decide +kernel
theorem dM_covers_5 : decode cM_covers 5 = .ok (.ifCond .eq 14, 3) := by decide +kernel
theorem dM_covers_8 : decode cM_covers 8 = .ok (.iload_n 2, 1) := by decide +kernel
theorem dM_covers_9 : decode cM_covers 9 = .ok (.invokestatic 68, 3) := by decide +kernel
theorem dM_covers_12 : decode cM_covers 12 = .ok (.ifCond .eq 7, 3) := by decide +kernel
theorem dM_covers_15 : decode cM_covers 15 = .ok (.iconst 0, 1) := by decide +kernel
theorem dM_covers_16 : decode cM_covers 16 = .ok (.goto 4, 3) := by decide +kernel
theorem dM_covers_19 : decode cM_covers 19 = .ok (.iconst 1, 1) := by decide +kernel
theorem dM_covers_20 : decode cM_covers 20 = .ok (.putfield 28, 3) := by decide +kernel
theorem dM_covers_23 : decode cM_covers 23 = .ok (.aload_n 0, 1) := by decide +kernel
theorem dM_covers_24 : decode cM_covers 24 = .ok (.getfield 28, 3) := by decide +kernel
theorem dM_covers_27 : decode cM_covers 27 = .ok (.ifCond .le 5, 3) := by decide +kernel
theorem dM_covers_30 : decode cM_covers 30 = .ok (.iconst 0, 1) := by decide +kernel
theorem dM_covers_31 : decode cM_covers 31 = .ok (.ireturn, 1) := by decide +kernel
theorem dM_covers_32 : decode cM_covers 32 = .ok (.aload_n 0, 1) := by decide +kernel
theorem dM_covers_33 : decode cM_covers 33 = .ok (.getfield 13, 3) := by decide +kernel
theorem dM_covers_36 : decode cM_covers 36 = .ok (.iload_n 2, 1) := by decide +kernel
theorem dM_covers_37 : decode cM_covers 37 = .ok (.laload, 1) := by decide +kernel
theorem dM_covers_38 : decode cM_covers 38 = .ok (.aload_n 0, 1) := by decide +kernel
theorem dM_covers_39 : decode cM_covers 39 = .ok (.getfield 13, 3) := by decide +kernel
theorem dM_covers_42 : decode cM_covers 42 = .ok (.iload_n 1, 1) := by decide +kernel
theorem dM_covers_43 : decode cM_covers 43 = .ok (.laload, 1) := by decide +kernel
theorem dM_covers_44 : decode cM_covers 44 = .ok (.ldc2_w 38, 3) := by decide +kernel
theorem dM_covers_47 : decode cM_covers 47 = .ok (.lxor, 1) := by decide +kernel
theorem dM_covers_48 : decode cM_covers 48 = .ok (.land, 1) := by decide +kernel
theorem dM_covers_49 : decode cM_covers 49 = .ok (.lconst 0, 1) := by decide +kernel
theorem dM_covers_50 : decode cM_covers 50 = .ok (.lcmp, 1) := by decide +kernel
theorem dM_covers_51 : decode cM_covers 51 = .ok (.ifCond .ne 36, 3) := by decide +kernel
theorem dM_covers_54 : decode cM_covers 54 = .ok (.aload_n 0, 1) := by decide +kernel
theorem dM_covers_55 : decode cM_covers 55 = .ok (.getfield 9, 3) := by decide +kernel
theorem dM_covers_58 : decode cM_covers 58 = .ok (.iload_n 1, 1) := by decide +kernel
theorem dM_covers_59 : decode cM_covers 59 = .ok (.laload, 1) := by decide +kernel
theorem dM_covers_60 : decode cM_covers 60 = .ok (.aload_n 0, 1) := by decide +kernel
theorem dM_covers_61 : decode cM_covers 61 = .ok (.getfield 9, 3) := by decide +kernel
theorem dM_covers_64 : decode cM_covers 64 = .ok (.iload_n 2, 1) := by decide +kernel
theorem dM_covers_65 : decode cM_covers 65 = .ok (.laload, 1) := by decide +kernel
theorem dM_covers_66 : decode cM_covers 66 = .ok (.lxor, 1) := by decide +kernel
theorem dM_covers_67 : decode cM_covers 67 = .ok (.aload_n 0, 1) := by decide +kernel
theorem dM_covers_68 : decode cM_covers 68 = .ok (.getfield 13, 3) := by decide +kernel
theorem dM_covers_71 : decode cM_covers 71 = .ok (.iload_n 1, 1) := by decide +kernel
theorem dM_covers_72 : decode cM_covers 72 = .ok (.laload, 1) := by decide +kernel
theorem dM_covers_73 : decode cM_covers 73 = .ok (.ldc2_w 38, 3) := by decide +kernel
theorem dM_covers_76 : decode cM_covers 76 = .ok (.lxor, 1) := by decide +kernel
theorem dM_covers_77 : decode cM_covers 77 = .ok (.land, 1) := by decide +kernel
theorem dM_covers_78 : decode cM_covers 78 = .ok (.lconst 0, 1) := by decide +kernel
theorem dM_covers_79 : decode cM_covers 79 = .ok (.lcmp, 1) := by decide +kernel
theorem dM_covers_80 : decode cM_covers 80 = .ok (.ifCond .ne 7, 3) := by decide +kernel
theorem dM_covers_83 : decode cM_covers 83 = .ok (.iconst 1, 1) := by decide +kernel
theorem dM_covers_84 : decode cM_covers 84 = .ok (.goto 4, 3) := by decide +kernel
theorem dM_covers_87 : decode cM_covers 87 = .ok (.iconst 0, 1) := by decide +kernel
theorem dM_covers_88 : decode cM_covers 88 = .ok (.istore_n 3, 1) := by decide +kernel
theorem dM_covers_89 : decode cM_covers 89 = .ok (.iload_n 3, 1) := by decide +kernel
theorem dM_covers_90 : decode cM_covers 90 = .ok (.ifCond .eq 75, 3) := by decide +kernel
theorem dM_covers_93 : decode cM_covers 93 = .ok (.aload_n 0, 1) := by decide +kernel
theorem dM_covers_94 : decode cM_covers 94 = .ok (.getfield 16, 3) := by decide +kernel
theorem dM_covers_97 : decode cM_covers 97 = .ok (.iload_n 2, 1) := by decide +kernel
theorem dM_covers_98 : decode cM_covers 98 = .ok (.laload, 1) := by decide +kernel
theorem dM_covers_99 : decode cM_covers 99 = .ok (.aload_n 0, 1) := by decide +kernel
theorem dM_covers_100 : decode cM_covers 100 = .ok (.getfield 16, 3) := by decide +kernel
theorem dM_covers_103 : decode cM_covers 103 = .ok (.iload_n 1, 1) := by decide +kernel
theorem dM_covers_104 : decode cM_covers 104 = .ok (.laload, 1) := by decide +kernel
theorem dM_covers_105 : decode cM_covers 105 = .ok (.invokestatic 34, 3) := by decide +kernel
theorem dM_covers_108 : decode cM_covers 108 = .ok (.ifCond .ne 57, 3) := by decide +kernel
theorem dM_covers_111 : decode cM_covers 111 = .ok (.aload_n 0, 1) := by decide +kernel
theorem dM_covers_112 : decode cM_covers 112 = .ok (.getfield 19, 3) := by decide +kernel
theorem dM_covers_115 : decode cM_covers 115 = .ok (.iload_n 1, 1) := by decide +kernel
theorem dM_covers_116 : decode cM_covers 116 = .ok (.laload, 1) := by decide +kernel
theorem dM_covers_117 : decode cM_covers 117 = .ok (.aload_n 0, 1) := by decide +kernel
theorem dM_covers_118 : decode cM_covers 118 = .ok (.getfield 19, 3) := by decide +kernel
theorem dM_covers_121 : decode cM_covers 121 = .ok (.iload_n 2, 1) := by decide +kernel
theorem dM_covers_122 : decode cM_covers 122 = .ok (.laload, 1) := by decide +kernel
theorem dM_covers_123 : decode cM_covers 123 = .ok (.invokestatic 34, 3) := by decide +kernel
theorem dM_covers_126 : decode cM_covers 126 = .ok (.ifCond .ne 39, 3) := by decide +kernel
theorem dM_covers_129 : decode cM_covers 129 = .ok (.aload_n 0, 1) := by decide +kernel
theorem dM_covers_130 : decode cM_covers 130 = .ok (.getfield 22, 3) := by decide +kernel
theorem dM_covers_133 : decode cM_covers 133 = .ok (.iload_n 1, 1) := by decide +kernel
theorem dM_covers_134 : decode cM_covers 134 = .ok (.laload, 1) := by decide +kernel
theorem dM_covers_135 : decode cM_covers 135 = .ok (.aload_n 0, 1) := by decide +kernel
theorem dM_covers_136 : decode cM_covers 136 = .ok (.getfield 22, 3) := by decide +kernel
theorem dM_covers_139 : decode cM_covers 139 = .ok (.iload_n 2, 1) := by decide +kernel
theorem dM_covers_140 : decode cM_covers 140 = .ok (.laload, 1) := by decide +kernel
theorem dM_covers_141 : decode cM_covers 141 = .ok (.lcmp, 1) := by decide +kernel
theorem dM_covers_142 : decode cM_covers 142 = .ok (.ifCond .gt 23, 3) := by decide +kernel
theorem dM_covers_145 : decode cM_covers 145 = .ok (.aload_n 0, 1) := by decide +kernel
theorem dM_covers_146 : decode cM_covers 146 = .ok (.getfield 25, 3) := by decide +kernel
theorem dM_covers_149 : decode cM_covers 149 = .ok (.iload_n 1, 1) := by decide +kernel
theorem dM_covers_150 : decode cM_covers 150 = .ok (.laload, 1) := by decide +kernel
theorem dM_covers_151 : decode cM_covers 151 = .ok (.aload_n 0, 1) := by decide +kernel
theorem dM_covers_152 : decode cM_covers 152 = .ok (.getfield 25, 3) := by decide +kernel
theorem dM_covers_155 : decode cM_covers 155 = .ok (.iload_n 2, 1) := by decide +kernel
theorem dM_covers_156 : decode cM_covers 156 = .ok (.laload, 1) := by decide +kernel
theorem dM_covers_157 : decode cM_covers 157 = .ok (.lcmp, 1) := by decide +kernel
theorem dM_covers_158 : decode cM_covers 158 = .ok (.ifCond .lt 7, 3) := by decide +kernel
theorem dM_covers_161 : decode cM_covers 161 = .ok (.iconst 1, 1) := by decide +kernel
theorem dM_covers_162 : decode cM_covers 162 = .ok (.goto 4, 3) := by decide +kernel
theorem dM_covers_165 : decode cM_covers 165 = .ok (.iconst 0, 1) := by decide +kernel
theorem dM_covers_166 : decode cM_covers 166 = .ok (.ireturn, 1) := by decide +kernel
def f_M_look (st : Md) (p1 : Int32) (p2 : Int32) : Int32 × Int64 :=
  if (f_M_is p1) = 0 then (1, 0)
  else if p2 < 0 then (1, 0)
  else if 6 ≤ p2 then (1, 0)
  else if p2 = 0 then (0, st.1 p1.toNatClampNeg)
  else if p2 = 1 then (0, st.2.1 p1.toNatClampNeg)
  else if p2 = 2 then (0, st.2.2.1 p1.toNatClampNeg)
  else if p2 = 3 then (0, st.2.2.2.1 p1.toNatClampNeg)
  else if p2 = 4 then (0, st.2.2.2.2.1 p1.toNatClampNeg)
  else (0, st.2.2.2.2.2 p1.toNatClampNeg)
set_option maxHeartbeats 4000000 in
set_option maxRecDepth 100000 in
theorem c_M_look (l : Launch) (D : va_G) (h0 : Nat) (a1 : Nat) (a2 : Nat) (a3 : Nat) (a4 : Nat) (a5 : Nat) (a6 : Nat) (cj1 cj2 cj3 cj4 cj5 cj6 : ClassId) (th : Int32) (st : Md) (p1 : Int32) (p2 : Int32) : sp_M l yM_look wsM_look ({ frames := 1, cells := 0, slots := 0, locals := 20 }) D [.ref h0, .int p1, .int p2] ([(h0, .inr (4, [.int th, .ref a1, .ref a2, .ref a3, .ref a4, .ref a5, .ref a6])), (a1, .inl (cj1, 19, .inr (.inl st.1))), (a2, .inl (cj2, 19, .inr (.inl st.2.1))), (a3, .inl (cj3, 19, .inr (.inl st.2.2.1))), (a4, .inl (cj4, 19, .inr (.inl st.2.2.2.1))), (a5, .inl (cj5, 19, .inr (.inl st.2.2.2.2.1))), (a6, .inl (cj6, 19, .inr (.inl st.2.2.2.2.2)))]) [(cj1, .long), (cj2, .long), (cj3, .long), (cj4, .long), (cj5, .long), (cj6, .long)] (sp_Ql D ([(h0, .inr (4, [.int th, .ref a1, .ref a2, .ref a3, .ref a4, .ref a5, .ref a6])), (a1, .inl (cj1, 19, .inr (.inl st.1))), (a2, .inl (cj2, 19, .inr (.inl st.2.1))), (a3, .inl (cj3, 19, .inr (.inl st.2.2.1))), (a4, .inl (cj4, 19, .inr (.inl st.2.2.2.1))), (a5, .inl (cj5, 19, .inr (.inl st.2.2.2.2.1))), (a6, .inl (cj6, 19, .inr (.inl st.2.2.2.2.2)))]) ([(h0, .inr (4, [.int ((f_M_look st p1 p2).1), .ref a1, .ref a2, .ref a3, .ref a4, .ref a5, .ref a6])), (a1, .inl (cj1, 19, .inr (.inl st.1))), (a2, .inl (cj2, 19, .inr (.inl st.2.1))), (a3, .inl (cj3, 19, .inr (.inl st.2.2.1))), (a4, .inl (cj4, 19, .inr (.inl st.2.2.2.1))), (a5, .inl (cj5, 19, .inr (.inl st.2.2.2.2.1))), (a6, .inl (cj6, 19, .inr (.inl st.2.2.2.2.2)))]) [(cj1, .long), (cj2, .long), (cj3, .long), (cj4, .long), (cj5, .long), (cj6, .long)] ((f_M_look st p1 p2).2)) := by
  refine sp_ofW (cc := cM_look) (nL := 3) (ret := (some .long)) (own := RM) (by decide) rfl rfl (Nat.le_of_ble_eq_true rfl) ?_
  intro p e s m below meth c A ls hAe hnm C hA hP hK hD hS hl
  have hx := C.1
  have hb := C.2.1
  have hown := C.2.2.2.2.1
  have hts := C.2.2.2.2.2.1
  have hl : lv_has ls 3 [(0, .ref h0), (1, .int p1), (2, .int p2)] := hl
  have hi4 : ∀ w ∈ u_ws RM TM 7, w ∈ wsM_look := fun w h => List.mem_cons_of_mem _ (inM w h)
  have hk0 := hts _ (List.mem_cons_of_mem _ wm_532)
  have hk1 := hts _ (List.mem_cons_of_mem _ wm_382)
  have hk2 := hts _ (List.mem_cons_of_mem _ wm_383)
  have hk3 := hts _ (List.mem_cons_of_mem _ wm_384)
  have hk4 := hts _ (List.mem_cons_of_mem _ wm_385)
  have hk5 := hts _ (List.mem_cons_of_mem _ wm_386)
  have hk6 := hts _ (List.mem_cons_of_mem _ wm_387)
  refine lv_aload_n hx hb dM_look_0 rfl (lv_at hl 0 rfl) ?_
  refine lv_iload_n hx hb dM_look_1 rfl (lv_at hl 1 rfl) ?_
  refine sp_callz (sp_runS (As := [.int p1]) (rest := [.ref h0]) C (c_M_is l D p1) (va_cwS 1 hts (gS wG_c wm_522 wm_523 wm_378 wm_521) rfl rfl rfl (by decide +kernel) ⟨Nat.le_of_ble_eq_true rfl, Nat.le_of_ble_eq_true rfl⟩) hK hP hD [] (by decide) rfl [] rfl rfl hl.1 rfl (Nat.le_of_ble_eq_true rfl) dM_look_2 ⟨Nat.le_of_ble_eq_true rfl, Nat.le_of_ble_eq_true rfl⟩) hP hD hS hA [] rfl sp_f0 (fun H locs z1 hP hD hS => ?_)
  have hP : va_P D vwCl ([(h0, .inr (4, [.int th, .ref a1, .ref a2, .ref a3, .ref a4, .ref a5, .ref a6])), (a1, .inl (cj1, 19, .inr (.inl st.1))), (a2, .inl (cj2, 19, .inr (.inl st.2.1))), (a3, .inl (cj3, 19, .inr (.inl st.2.2.1))), (a4, .inl (cj4, 19, .inr (.inl st.2.2.2.1))), (a5, .inl (cj5, 19, .inr (.inl st.2.2.2.2.1))), (a6, .inl (cj6, 19, .inr (.inl st.2.2.2.2.2)))]) H := hP
  have hD : va_D A ([(h0, .inr (4, [.int th, .ref a1, .ref a2, .ref a3, .ref a4, .ref a5, .ref a6])), (a1, .inl (cj1, 19, .inr (.inl st.1))), (a2, .inl (cj2, 19, .inr (.inl st.2.1))), (a3, .inl (cj3, 19, .inr (.inl st.2.2.1))), (a4, .inl (cj4, 19, .inr (.inl st.2.2.2.1))), (a5, .inl (cj5, 19, .inr (.inl st.2.2.2.2.1))), (a6, .inl (cj6, 19, .inr (.inl st.2.2.2.2.2)))]) := hD
  refine lv_if_eq (tgt := 22) hx hb dM_look_5 (by decide) (fun c2 => ?_) (fun c2 => ?_)
  · refine lv_iconst (v := 1) hx hb dM_look_22 (by decide) ?_
    refine va_put (D := D) (ci := 4) (v := .int 1) (ty := .int) (C := RM) (T := TM) (N := 7) hx hb hts hi4 tyM tyM_ok nmM hown hK hP hD hS 0 rfl rfl 0 (by decide) hk0 (fun _ h9 => h9) rfl (by decide +kernel) rfl rfl (Nat.le_of_ble_eq_true rfl) dM_look_23 (fun H locs hP hD hS => ?_)
    have hP : va_P D vwCl ([(h0, .inr (4, [.int 1, .ref a1, .ref a2, .ref a3, .ref a4, .ref a5, .ref a6])), (a1, .inl (cj1, 19, .inr (.inl st.1))), (a2, .inl (cj2, 19, .inr (.inl st.2.1))), (a3, .inl (cj3, 19, .inr (.inl st.2.2.1))), (a4, .inl (cj4, 19, .inr (.inl st.2.2.2.1))), (a5, .inl (cj5, 19, .inr (.inl st.2.2.2.2.1))), (a6, .inl (cj6, 19, .inr (.inl st.2.2.2.2.2)))]) H := hP
    have hD : va_D A ([(h0, .inr (4, [.int 1, .ref a1, .ref a2, .ref a3, .ref a4, .ref a5, .ref a6])), (a1, .inl (cj1, 19, .inr (.inl st.1))), (a2, .inl (cj2, 19, .inr (.inl st.2.1))), (a3, .inl (cj3, 19, .inr (.inl st.2.2.1))), (a4, .inl (cj4, 19, .inr (.inl st.2.2.2.1))), (a5, .inl (cj5, 19, .inr (.inl st.2.2.2.2.1))), (a6, .inl (cj6, 19, .inr (.inl st.2.2.2.2.2)))]) := hD
    refine lv_aload_n hx hb dM_look_26 rfl (lv_at hl 0 rfl) ?_
    refine va_get (D := D) (ci := 4) (v := .int 1) (C := RM) (T := TM) (N := 7) hx hb hts hi4 hown hK hP 0 rfl rfl 0 (by decide) hk0 (fun _ h9 => h9) rfl dM_look_27 ?_
    refine lv_if_le (tgt := 35) hx hb dM_look_30 (by decide) (fun h9 => absurd h9 (by decide)) (fun _ => ?_)
    refine lv_lconst (v := 0) hx hb dM_look_33 (by decide) ?_
    have e9 : f_M_look st p1 p2 = (1, 0) := (if_pos c2).trans (rfl)
    rw [sp_fst e9, sp_snd e9]
    exact sp_lret C hAe hP hK hD hS dM_look_34
  · refine lv_iload_n hx hb dM_look_8 rfl (lv_at hl 2 rfl) ?_
    refine lv_if_lt (tgt := 22) hx hb dM_look_9 (by decide) (fun c3 => ?_) (fun c3 => ?_)
    · refine lv_iconst (v := 1) hx hb dM_look_22 (by decide) ?_
      refine va_put (D := D) (ci := 4) (v := .int 1) (ty := .int) (C := RM) (T := TM) (N := 7) hx hb hts hi4 tyM tyM_ok nmM hown hK hP hD hS 0 rfl rfl 0 (by decide) hk0 (fun _ h9 => h9) rfl (by decide +kernel) rfl rfl (Nat.le_of_ble_eq_true rfl) dM_look_23 (fun H locs hP hD hS => ?_)
      have hP : va_P D vwCl ([(h0, .inr (4, [.int 1, .ref a1, .ref a2, .ref a3, .ref a4, .ref a5, .ref a6])), (a1, .inl (cj1, 19, .inr (.inl st.1))), (a2, .inl (cj2, 19, .inr (.inl st.2.1))), (a3, .inl (cj3, 19, .inr (.inl st.2.2.1))), (a4, .inl (cj4, 19, .inr (.inl st.2.2.2.1))), (a5, .inl (cj5, 19, .inr (.inl st.2.2.2.2.1))), (a6, .inl (cj6, 19, .inr (.inl st.2.2.2.2.2)))]) H := hP
      have hD : va_D A ([(h0, .inr (4, [.int 1, .ref a1, .ref a2, .ref a3, .ref a4, .ref a5, .ref a6])), (a1, .inl (cj1, 19, .inr (.inl st.1))), (a2, .inl (cj2, 19, .inr (.inl st.2.1))), (a3, .inl (cj3, 19, .inr (.inl st.2.2.1))), (a4, .inl (cj4, 19, .inr (.inl st.2.2.2.1))), (a5, .inl (cj5, 19, .inr (.inl st.2.2.2.2.1))), (a6, .inl (cj6, 19, .inr (.inl st.2.2.2.2.2)))]) := hD
      refine lv_aload_n hx hb dM_look_26 rfl (lv_at hl 0 rfl) ?_
      refine va_get (D := D) (ci := 4) (v := .int 1) (C := RM) (T := TM) (N := 7) hx hb hts hi4 hown hK hP 0 rfl rfl 0 (by decide) hk0 (fun _ h9 => h9) rfl dM_look_27 ?_
      refine lv_if_le (tgt := 35) hx hb dM_look_30 (by decide) (fun h9 => absurd h9 (by decide)) (fun _ => ?_)
      refine lv_lconst (v := 0) hx hb dM_look_33 (by decide) ?_
      have e9 : f_M_look st p1 p2 = (1, 0) := (if_neg c2).trans ((if_pos c3).trans (rfl))
      rw [sp_fst e9, sp_snd e9]
      exact sp_lret C hAe hP hK hD hS dM_look_34
    · refine lv_iload_n hx hb dM_look_12 rfl (lv_at hl 2 rfl) ?_
      refine lv_bipush (v := 6) hx hb dM_look_13 (by decide) ?_
      refine lv_icmp_ge (tgt := 22) hx hb dM_look_15 (by decide) (fun c4 => ?_) (fun c4 => ?_)
      · refine lv_iconst (v := 1) hx hb dM_look_22 (by decide) ?_
        refine va_put (D := D) (ci := 4) (v := .int 1) (ty := .int) (C := RM) (T := TM) (N := 7) hx hb hts hi4 tyM tyM_ok nmM hown hK hP hD hS 0 rfl rfl 0 (by decide) hk0 (fun _ h9 => h9) rfl (by decide +kernel) rfl rfl (Nat.le_of_ble_eq_true rfl) dM_look_23 (fun H locs hP hD hS => ?_)
        have hP : va_P D vwCl ([(h0, .inr (4, [.int 1, .ref a1, .ref a2, .ref a3, .ref a4, .ref a5, .ref a6])), (a1, .inl (cj1, 19, .inr (.inl st.1))), (a2, .inl (cj2, 19, .inr (.inl st.2.1))), (a3, .inl (cj3, 19, .inr (.inl st.2.2.1))), (a4, .inl (cj4, 19, .inr (.inl st.2.2.2.1))), (a5, .inl (cj5, 19, .inr (.inl st.2.2.2.2.1))), (a6, .inl (cj6, 19, .inr (.inl st.2.2.2.2.2)))]) H := hP
        have hD : va_D A ([(h0, .inr (4, [.int 1, .ref a1, .ref a2, .ref a3, .ref a4, .ref a5, .ref a6])), (a1, .inl (cj1, 19, .inr (.inl st.1))), (a2, .inl (cj2, 19, .inr (.inl st.2.1))), (a3, .inl (cj3, 19, .inr (.inl st.2.2.1))), (a4, .inl (cj4, 19, .inr (.inl st.2.2.2.1))), (a5, .inl (cj5, 19, .inr (.inl st.2.2.2.2.1))), (a6, .inl (cj6, 19, .inr (.inl st.2.2.2.2.2)))]) := hD
        refine lv_aload_n hx hb dM_look_26 rfl (lv_at hl 0 rfl) ?_
        refine va_get (D := D) (ci := 4) (v := .int 1) (C := RM) (T := TM) (N := 7) hx hb hts hi4 hown hK hP 0 rfl rfl 0 (by decide) hk0 (fun _ h9 => h9) rfl dM_look_27 ?_
        refine lv_if_le (tgt := 35) hx hb dM_look_30 (by decide) (fun h9 => absurd h9 (by decide)) (fun _ => ?_)
        refine lv_lconst (v := 0) hx hb dM_look_33 (by decide) ?_
        have e9 : f_M_look st p1 p2 = (1, 0) := (if_neg c2).trans ((if_neg c3).trans ((if_pos c4).trans (rfl)))
        rw [sp_fst e9, sp_snd e9]
        exact sp_lret C hAe hP hK hD hS dM_look_34
      · refine lv_iconst (v := 0) hx hb dM_look_18 (by decide) ?_
        refine lv_goto (tgt := 23) hx hb dM_look_19 (by decide) ?_
        refine va_put (D := D) (ci := 4) (v := .int 0) (ty := .int) (C := RM) (T := TM) (N := 7) hx hb hts hi4 tyM tyM_ok nmM hown hK hP hD hS 0 rfl rfl 0 (by decide) hk0 (fun _ h9 => h9) rfl (by decide +kernel) rfl rfl (Nat.le_of_ble_eq_true rfl) dM_look_23 (fun H locs hP hD hS => ?_)
        have hP : va_P D vwCl ([(h0, .inr (4, [.int 0, .ref a1, .ref a2, .ref a3, .ref a4, .ref a5, .ref a6])), (a1, .inl (cj1, 19, .inr (.inl st.1))), (a2, .inl (cj2, 19, .inr (.inl st.2.1))), (a3, .inl (cj3, 19, .inr (.inl st.2.2.1))), (a4, .inl (cj4, 19, .inr (.inl st.2.2.2.1))), (a5, .inl (cj5, 19, .inr (.inl st.2.2.2.2.1))), (a6, .inl (cj6, 19, .inr (.inl st.2.2.2.2.2)))]) H := hP
        have hD : va_D A ([(h0, .inr (4, [.int 0, .ref a1, .ref a2, .ref a3, .ref a4, .ref a5, .ref a6])), (a1, .inl (cj1, 19, .inr (.inl st.1))), (a2, .inl (cj2, 19, .inr (.inl st.2.1))), (a3, .inl (cj3, 19, .inr (.inl st.2.2.1))), (a4, .inl (cj4, 19, .inr (.inl st.2.2.2.1))), (a5, .inl (cj5, 19, .inr (.inl st.2.2.2.2.1))), (a6, .inl (cj6, 19, .inr (.inl st.2.2.2.2.2)))]) := hD
        refine lv_aload_n hx hb dM_look_26 rfl (lv_at hl 0 rfl) ?_
        refine va_get (D := D) (ci := 4) (v := .int 0) (C := RM) (T := TM) (N := 7) hx hb hts hi4 hown hK hP 0 rfl rfl 0 (by decide) hk0 (fun _ h9 => h9) rfl dM_look_27 ?_
        refine lv_if_le (tgt := 35) hx hb dM_look_30 (by decide) (fun _ => ?_) (fun h9 => absurd h9 (by decide))
        refine lv_iload_n hx hb dM_look_35 rfl (lv_at hl 2 rfl) ?_
        by_cases c5 : p2 = 0
        · refine lv_tableIn (tgt := 72) hx hb dM_look_36 (by rw [c5]; decide) (by rw [c5]; decide) (by rw [c5]; rfl) (by decide) ?_
          refine lv_aload_n hx hb dM_look_72 rfl (lv_at hl 0 rfl) ?_
          refine va_get (D := D) (ci := 4) (v := .ref a1) (C := RM) (T := TM) (N := 7) hx hb hts hi4 hown hK hP 0 rfl rfl 1 (by decide) hk1 (fun _ h9 => h9) rfl dM_look_73 ?_
          refine lv_iload_n hx hb dM_look_76 rfl (lv_at hl 1 rfl) ?_
          refine va_lald hx hb hK hP 1 0 rfl rfl (mb_in c2) dM_look_77 ?_
          have e9 : f_M_look st p1 p2 = (0, st.1 p1.toNatClampNeg) := (if_neg c2).trans ((if_neg c3).trans ((if_neg c4).trans ((if_pos c5).trans (rfl))))
          rw [sp_fst e9, sp_snd e9]
          exact sp_lret C hAe hP hK hD hS dM_look_78
        · by_cases c6 : p2 = 1
          · refine lv_tableIn (tgt := 79) hx hb dM_look_36 (by rw [c6]; decide) (by rw [c6]; decide) (by rw [c6]; rfl) (by decide) ?_
            refine lv_aload_n hx hb dM_look_79 rfl (lv_at hl 0 rfl) ?_
            refine va_get (D := D) (ci := 4) (v := .ref a2) (C := RM) (T := TM) (N := 7) hx hb hts hi4 hown hK hP 0 rfl rfl 2 (by decide) hk2 (fun _ h9 => h9) rfl dM_look_80 ?_
            refine lv_iload_n hx hb dM_look_83 rfl (lv_at hl 1 rfl) ?_
            refine va_lald hx hb hK hP 2 1 rfl rfl (mb_in c2) dM_look_84 ?_
            have e9 : f_M_look st p1 p2 = (0, st.2.1 p1.toNatClampNeg) := (if_neg c2).trans ((if_neg c3).trans ((if_neg c4).trans ((if_neg c5).trans ((if_pos c6).trans (rfl)))))
            rw [sp_fst e9, sp_snd e9]
            exact sp_lret C hAe hP hK hD hS dM_look_85
          · by_cases c7 : p2 = 2
            · refine lv_tableIn (tgt := 86) hx hb dM_look_36 (by rw [c7]; decide) (by rw [c7]; decide) (by rw [c7]; rfl) (by decide) ?_
              refine lv_aload_n hx hb dM_look_86 rfl (lv_at hl 0 rfl) ?_
              refine va_get (D := D) (ci := 4) (v := .ref a3) (C := RM) (T := TM) (N := 7) hx hb hts hi4 hown hK hP 0 rfl rfl 3 (by decide) hk3 (fun _ h9 => h9) rfl dM_look_87 ?_
              refine lv_iload_n hx hb dM_look_90 rfl (lv_at hl 1 rfl) ?_
              refine va_lald hx hb hK hP 3 2 rfl rfl (mb_in c2) dM_look_91 ?_
              have e9 : f_M_look st p1 p2 = (0, st.2.2.1 p1.toNatClampNeg) := (if_neg c2).trans ((if_neg c3).trans ((if_neg c4).trans ((if_neg c5).trans ((if_neg c6).trans ((if_pos c7).trans (rfl))))))
              rw [sp_fst e9, sp_snd e9]
              exact sp_lret C hAe hP hK hD hS dM_look_92
            · by_cases c8 : p2 = 3
              · refine lv_tableIn (tgt := 93) hx hb dM_look_36 (by rw [c8]; decide) (by rw [c8]; decide) (by rw [c8]; rfl) (by decide) ?_
                refine lv_aload_n hx hb dM_look_93 rfl (lv_at hl 0 rfl) ?_
                refine va_get (D := D) (ci := 4) (v := .ref a4) (C := RM) (T := TM) (N := 7) hx hb hts hi4 hown hK hP 0 rfl rfl 4 (by decide) hk4 (fun _ h9 => h9) rfl dM_look_94 ?_
                refine lv_iload_n hx hb dM_look_97 rfl (lv_at hl 1 rfl) ?_
                refine va_lald hx hb hK hP 4 3 rfl rfl (mb_in c2) dM_look_98 ?_
                have e9 : f_M_look st p1 p2 = (0, st.2.2.2.1 p1.toNatClampNeg) := (if_neg c2).trans ((if_neg c3).trans ((if_neg c4).trans ((if_neg c5).trans ((if_neg c6).trans ((if_neg c7).trans ((if_pos c8).trans (rfl)))))))
                rw [sp_fst e9, sp_snd e9]
                exact sp_lret C hAe hP hK hD hS dM_look_99
              · by_cases c9 : p2 = 4
                · refine lv_tableIn (tgt := 100) hx hb dM_look_36 (by rw [c9]; decide) (by rw [c9]; decide) (by rw [c9]; rfl) (by decide) ?_
                  refine lv_aload_n hx hb dM_look_100 rfl (lv_at hl 0 rfl) ?_
                  refine va_get (D := D) (ci := 4) (v := .ref a5) (C := RM) (T := TM) (N := 7) hx hb hts hi4 hown hK hP 0 rfl rfl 5 (by decide) hk5 (fun _ h9 => h9) rfl dM_look_101 ?_
                  refine lv_iload_n hx hb dM_look_104 rfl (lv_at hl 1 rfl) ?_
                  refine va_lald hx hb hK hP 5 4 rfl rfl (mb_in c2) dM_look_105 ?_
                  have e9 : f_M_look st p1 p2 = (0, st.2.2.2.2.1 p1.toNatClampNeg) := (if_neg c2).trans ((if_neg c3).trans ((if_neg c4).trans ((if_neg c5).trans ((if_neg c6).trans ((if_neg c7).trans ((if_neg c8).trans ((if_pos c9).trans (rfl))))))))
                  rw [sp_fst e9, sp_snd e9]
                  exact sp_lret C hAe hP hK hD hS dM_look_106
                · have ec5 := lv_neT c5 (show (0 : Int32).toInt = 0 by decide)
                  have ec6 := lv_neT c6 (show (1 : Int32).toInt = 1 by decide)
                  have ec7 := lv_neT c7 (show (2 : Int32).toInt = 2 by decide)
                  have ec8 := lv_neT c8 (show (3 : Int32).toInt = 3 by decide)
                  have ec9 := lv_neT c9 (show (4 : Int32).toInt = 4 by decide)
                  refine lv_tableOut (tgt := 107) hx hb dM_look_36 (by omega) (by decide) ?_
                  refine lv_aload_n hx hb dM_look_107 rfl (lv_at hl 0 rfl) ?_
                  refine va_get (D := D) (ci := 4) (v := .ref a6) (C := RM) (T := TM) (N := 7) hx hb hts hi4 hown hK hP 0 rfl rfl 6 (by decide) hk6 (fun _ h9 => h9) rfl dM_look_108 ?_
                  refine lv_iload_n hx hb dM_look_111 rfl (lv_at hl 1 rfl) ?_
                  refine va_lald hx hb hK hP 6 5 rfl rfl (mb_in c2) dM_look_112 ?_
                  have e9 : f_M_look st p1 p2 = (0, st.2.2.2.2.2 p1.toNatClampNeg) := (if_neg c2).trans ((if_neg c3).trans ((if_neg c4).trans ((if_neg c5).trans ((if_neg c6).trans ((if_neg c7).trans ((if_neg c8).trans ((if_neg c9).trans (rfl))))))))
                  rw [sp_fst e9, sp_snd e9]
                  exact sp_lret C hAe hP hK hD hS dM_look_113
def f_M_has (st : Md) (p1 : Int32) (p2 : Int64) : Int32 × Int32 :=
  if (f_M_is p1) = 0 then (1, 0)
  else if (lg_cmp ((p2 ^^^ (st.1 p1.toNatClampNeg)) &&& ((st.2.1 p1.toNatClampNeg) ^^^ (-1))) 0) = 0 then (if (f_M_below p2 (st.2.2.1 p1.toNatClampNeg)) = 0 then (if (f_M_below (st.2.2.2.1 p1.toNatClampNeg) p2) = 0 then (if (lg_cmp p2 (st.2.2.2.2.1 p1.toNatClampNeg)) < 0 then (0, 0)
        else if 0 < (lg_cmp p2 (st.2.2.2.2.2 p1.toNatClampNeg)) then (0, 0)
        else (0, 1))
      else (0, 0))
    else (0, 0))
  else (0, 0)
set_option maxHeartbeats 4000000 in
set_option maxRecDepth 100000 in
theorem c_M_has (l : Launch) (D : va_G) (h0 : Nat) (a1 : Nat) (a2 : Nat) (a3 : Nat) (a4 : Nat) (a5 : Nat) (a6 : Nat) (cj1 cj2 cj3 cj4 cj5 cj6 : ClassId) (th : Int32) (st : Md) (p1 : Int32) (p2 : Int64) : sp_M l yM_has wsM_has ({ frames := 1, cells := 0, slots := 0, locals := 23 }) D [.ref h0, .int p1, .long p2] ([(h0, .inr (4, [.int th, .ref a1, .ref a2, .ref a3, .ref a4, .ref a5, .ref a6])), (a1, .inl (cj1, 19, .inr (.inl st.1))), (a2, .inl (cj2, 19, .inr (.inl st.2.1))), (a3, .inl (cj3, 19, .inr (.inl st.2.2.1))), (a4, .inl (cj4, 19, .inr (.inl st.2.2.2.1))), (a5, .inl (cj5, 19, .inr (.inl st.2.2.2.2.1))), (a6, .inl (cj6, 19, .inr (.inl st.2.2.2.2.2)))]) [(cj1, .long), (cj2, .long), (cj3, .long), (cj4, .long), (cj5, .long), (cj6, .long)] (sp_Qz D ([(h0, .inr (4, [.int th, .ref a1, .ref a2, .ref a3, .ref a4, .ref a5, .ref a6])), (a1, .inl (cj1, 19, .inr (.inl st.1))), (a2, .inl (cj2, 19, .inr (.inl st.2.1))), (a3, .inl (cj3, 19, .inr (.inl st.2.2.1))), (a4, .inl (cj4, 19, .inr (.inl st.2.2.2.1))), (a5, .inl (cj5, 19, .inr (.inl st.2.2.2.2.1))), (a6, .inl (cj6, 19, .inr (.inl st.2.2.2.2.2)))]) ([(h0, .inr (4, [.int ((f_M_has st p1 p2).1), .ref a1, .ref a2, .ref a3, .ref a4, .ref a5, .ref a6])), (a1, .inl (cj1, 19, .inr (.inl st.1))), (a2, .inl (cj2, 19, .inr (.inl st.2.1))), (a3, .inl (cj3, 19, .inr (.inl st.2.2.1))), (a4, .inl (cj4, 19, .inr (.inl st.2.2.2.1))), (a5, .inl (cj5, 19, .inr (.inl st.2.2.2.2.1))), (a6, .inl (cj6, 19, .inr (.inl st.2.2.2.2.2)))]) [(cj1, .long), (cj2, .long), (cj3, .long), (cj4, .long), (cj5, .long), (cj6, .long)] ((f_M_has st p1 p2).2)) := by
  refine sp_ofW (cc := cM_has) (nL := 4) (ret := (some .boolean)) (own := RM) (by decide) rfl rfl (Nat.le_of_ble_eq_true rfl) ?_
  intro p e s m below meth c A ls hAe hnm C hA hP hK hD hS hl
  have hx := C.1
  have hb := C.2.1
  have hown := C.2.2.2.2.1
  have hts := C.2.2.2.2.2.1
  have hl : lv_has ls 4 [(0, .ref h0), (1, .int p1), (2, .long p2)] := hl
  have hi4 : ∀ w ∈ u_ws RM TM 7, w ∈ wsM_has := fun w h => List.mem_cons_of_mem _ (inM w h)
  have hk0 := hts _ (List.mem_cons_of_mem _ wm_532)
  have hk1 := hts _ (List.mem_cons_of_mem _ wm_382)
  have hk2 := hts _ (List.mem_cons_of_mem _ wm_383)
  have hk3 := hts _ (List.mem_cons_of_mem _ wm_381)
  have hk4 := hts _ (List.mem_cons_of_mem _ wm_384)
  have hk5 := hts _ (List.mem_cons_of_mem _ wm_385)
  have hk6 := hts _ (List.mem_cons_of_mem _ wm_386)
  have hk7 := hts _ (List.mem_cons_of_mem _ wm_387)
  refine lv_aload_n hx hb dM_has_0 rfl (lv_at hl 0 rfl) ?_
  refine lv_iload_n hx hb dM_has_1 rfl (lv_at hl 1 rfl) ?_
  refine sp_callz (sp_runS (As := [.int p1]) (rest := [.ref h0]) C (c_M_is l D p1) (va_cwS 1 hts (gS wG_c wm_522 wm_523 wm_378 wm_521) rfl rfl rfl (by decide +kernel) ⟨Nat.le_of_ble_eq_true rfl, Nat.le_of_ble_eq_true rfl⟩) hK hP hD [] (by decide) rfl [] rfl rfl hl.1 rfl (Nat.le_of_ble_eq_true rfl) dM_has_2 ⟨Nat.le_of_ble_eq_true rfl, Nat.le_of_ble_eq_true rfl⟩) hP hD hS hA [] rfl sp_f0 (fun H locs z1 hP hD hS => ?_)
  have hP : va_P D vwCl ([(h0, .inr (4, [.int th, .ref a1, .ref a2, .ref a3, .ref a4, .ref a5, .ref a6])), (a1, .inl (cj1, 19, .inr (.inl st.1))), (a2, .inl (cj2, 19, .inr (.inl st.2.1))), (a3, .inl (cj3, 19, .inr (.inl st.2.2.1))), (a4, .inl (cj4, 19, .inr (.inl st.2.2.2.1))), (a5, .inl (cj5, 19, .inr (.inl st.2.2.2.2.1))), (a6, .inl (cj6, 19, .inr (.inl st.2.2.2.2.2)))]) H := hP
  have hD : va_D A ([(h0, .inr (4, [.int th, .ref a1, .ref a2, .ref a3, .ref a4, .ref a5, .ref a6])), (a1, .inl (cj1, 19, .inr (.inl st.1))), (a2, .inl (cj2, 19, .inr (.inl st.2.1))), (a3, .inl (cj3, 19, .inr (.inl st.2.2.1))), (a4, .inl (cj4, 19, .inr (.inl st.2.2.2.1))), (a5, .inl (cj5, 19, .inr (.inl st.2.2.2.2.1))), (a6, .inl (cj6, 19, .inr (.inl st.2.2.2.2.2)))]) := hD
  refine lv_if_eq (tgt := 12) hx hb dM_has_5 (by decide) (fun c2 => ?_) (fun c2 => ?_)
  · refine lv_iconst (v := 1) hx hb dM_has_12 (by decide) ?_
    refine va_put (D := D) (ci := 4) (v := .int 1) (ty := .int) (C := RM) (T := TM) (N := 7) hx hb hts hi4 tyM tyM_ok nmM hown hK hP hD hS 0 rfl rfl 0 (by decide) hk0 (fun _ h9 => h9) rfl (by decide +kernel) rfl rfl (Nat.le_of_ble_eq_true rfl) dM_has_13 (fun H locs hP hD hS => ?_)
    have hP : va_P D vwCl ([(h0, .inr (4, [.int 1, .ref a1, .ref a2, .ref a3, .ref a4, .ref a5, .ref a6])), (a1, .inl (cj1, 19, .inr (.inl st.1))), (a2, .inl (cj2, 19, .inr (.inl st.2.1))), (a3, .inl (cj3, 19, .inr (.inl st.2.2.1))), (a4, .inl (cj4, 19, .inr (.inl st.2.2.2.1))), (a5, .inl (cj5, 19, .inr (.inl st.2.2.2.2.1))), (a6, .inl (cj6, 19, .inr (.inl st.2.2.2.2.2)))]) H := hP
    have hD : va_D A ([(h0, .inr (4, [.int 1, .ref a1, .ref a2, .ref a3, .ref a4, .ref a5, .ref a6])), (a1, .inl (cj1, 19, .inr (.inl st.1))), (a2, .inl (cj2, 19, .inr (.inl st.2.1))), (a3, .inl (cj3, 19, .inr (.inl st.2.2.1))), (a4, .inl (cj4, 19, .inr (.inl st.2.2.2.1))), (a5, .inl (cj5, 19, .inr (.inl st.2.2.2.2.1))), (a6, .inl (cj6, 19, .inr (.inl st.2.2.2.2.2)))]) := hD
    refine lv_aload_n hx hb dM_has_16 rfl (lv_at hl 0 rfl) ?_
    refine va_get (D := D) (ci := 4) (v := .int 1) (C := RM) (T := TM) (N := 7) hx hb hts hi4 hown hK hP 0 rfl rfl 0 (by decide) hk0 (fun _ h9 => h9) rfl dM_has_17 ?_
    refine lv_if_le (tgt := 25) hx hb dM_has_20 (by decide) (fun h9 => absurd h9 (by decide)) (fun _ => ?_)
    refine lv_iconst (v := 0) hx hb dM_has_23 (by decide) ?_
    have e9 : f_M_has st p1 p2 = (1, 0) := (if_pos c2).trans (rfl)
    rw [sp_fst e9, sp_snd e9]
    exact sp_zret C hAe hP hK hD hS (Or.inl rfl) dM_has_24
  · refine lv_iconst (v := 0) hx hb dM_has_8 (by decide) ?_
    refine lv_goto (tgt := 13) hx hb dM_has_9 (by decide) ?_
    refine va_put (D := D) (ci := 4) (v := .int 0) (ty := .int) (C := RM) (T := TM) (N := 7) hx hb hts hi4 tyM tyM_ok nmM hown hK hP hD hS 0 rfl rfl 0 (by decide) hk0 (fun _ h9 => h9) rfl (by decide +kernel) rfl rfl (Nat.le_of_ble_eq_true rfl) dM_has_13 (fun H locs hP hD hS => ?_)
    have hP : va_P D vwCl ([(h0, .inr (4, [.int 0, .ref a1, .ref a2, .ref a3, .ref a4, .ref a5, .ref a6])), (a1, .inl (cj1, 19, .inr (.inl st.1))), (a2, .inl (cj2, 19, .inr (.inl st.2.1))), (a3, .inl (cj3, 19, .inr (.inl st.2.2.1))), (a4, .inl (cj4, 19, .inr (.inl st.2.2.2.1))), (a5, .inl (cj5, 19, .inr (.inl st.2.2.2.2.1))), (a6, .inl (cj6, 19, .inr (.inl st.2.2.2.2.2)))]) H := hP
    have hD : va_D A ([(h0, .inr (4, [.int 0, .ref a1, .ref a2, .ref a3, .ref a4, .ref a5, .ref a6])), (a1, .inl (cj1, 19, .inr (.inl st.1))), (a2, .inl (cj2, 19, .inr (.inl st.2.1))), (a3, .inl (cj3, 19, .inr (.inl st.2.2.1))), (a4, .inl (cj4, 19, .inr (.inl st.2.2.2.1))), (a5, .inl (cj5, 19, .inr (.inl st.2.2.2.2.1))), (a6, .inl (cj6, 19, .inr (.inl st.2.2.2.2.2)))]) := hD
    refine lv_aload_n hx hb dM_has_16 rfl (lv_at hl 0 rfl) ?_
    refine va_get (D := D) (ci := 4) (v := .int 0) (C := RM) (T := TM) (N := 7) hx hb hts hi4 hown hK hP 0 rfl rfl 0 (by decide) hk0 (fun _ h9 => h9) rfl dM_has_17 ?_
    refine lv_if_le (tgt := 25) hx hb dM_has_20 (by decide) (fun _ => ?_) (fun h9 => absurd h9 (by decide))
    refine lv_lload_n hx hb dM_has_25 rfl (lv_at hl 2 rfl) ?_
    refine lv_aload_n hx hb dM_has_26 rfl (lv_at hl 0 rfl) ?_
    refine va_get (D := D) (ci := 4) (v := .ref a1) (C := RM) (T := TM) (N := 7) hx hb hts hi4 hown hK hP 0 rfl rfl 1 (by decide) hk1 (fun _ h9 => h9) rfl dM_has_27 ?_
    refine lv_iload_n hx hb dM_has_30 rfl (lv_at hl 1 rfl) ?_
    refine va_lald hx hb hK hP 1 0 rfl rfl (mb_in c2) dM_has_31 ?_
    refine lv_lxor hx hb dM_has_32 ?_
    refine lv_aload_n hx hb dM_has_33 rfl (lv_at hl 0 rfl) ?_
    refine va_get (D := D) (ci := 4) (v := .ref a2) (C := RM) (T := TM) (N := 7) hx hb hts hi4 hown hK hP 0 rfl rfl 2 (by decide) hk2 (fun _ h9 => h9) rfl dM_has_34 ?_
    refine lv_iload_n hx hb dM_has_37 rfl (lv_at hl 1 rfl) ?_
    refine va_lald hx hb hK hP 2 1 rfl rfl (mb_in c2) dM_has_38 ?_
    refine lv_ldc2 (v := (-1)) hx hb hown hk3 dM_has_39 ?_
    refine lv_lxor hx hb dM_has_42 ?_
    refine lv_land hx hb dM_has_43 ?_
    refine lv_lconst (v := 0) hx hb dM_has_44 (by decide) ?_
    refine W.lcmp hx hb dM_has_45 ?_
    refine lv_if_ne (tgt := 101) hx hb dM_has_46 (by decide) (fun c3 => ?_) (fun c3 => ?_)
    · refine lv_iconst (v := 0) hx hb dM_has_101 (by decide) ?_
      have e9 : f_M_has st p1 p2 = (0, 0) := (if_neg c2).trans ((if_neg c3).trans (rfl))
      rw [sp_fst e9, sp_snd e9]
      exact sp_zret C hAe hP hK hD hS (Or.inl rfl) dM_has_102
    · refine lv_lload_n hx hb dM_has_49 rfl (lv_at hl 2 rfl) ?_
      refine lv_aload_n hx hb dM_has_50 rfl (lv_at hl 0 rfl) ?_
      refine va_get (D := D) (ci := 4) (v := .ref a3) (C := RM) (T := TM) (N := 7) hx hb hts hi4 hown hK hP 0 rfl rfl 3 (by decide) hk4 (fun _ h9 => h9) rfl dM_has_51 ?_
      refine lv_iload_n hx hb dM_has_54 rfl (lv_at hl 1 rfl) ?_
      refine va_lald hx hb hK hP 3 2 rfl rfl (mb_in c2) dM_has_55 ?_
      refine sp_callz (sp_runS (As := [.long p2, .long (st.2.2.1 p1.toNatClampNeg)]) (rest := []) C (c_M_below l D p2 (st.2.2.1 p1.toNatClampNeg)) (va_cwS 2 hts (gS wG_c wm_376 wm_377 wm_378 wm_375) rfl rfl rfl (by decide +kernel) ⟨Nat.le_of_ble_eq_true rfl, Nat.le_of_ble_eq_true rfl⟩) hK hP hD [] (by decide) rfl [] rfl rfl hl.1 rfl (Nat.le_of_ble_eq_true rfl) dM_has_56 ⟨Nat.le_of_ble_eq_true rfl, Nat.le_of_ble_eq_true rfl⟩) hP hD hS hA [] rfl sp_f0 (fun H locs z4 hP hD hS => ?_)
      have hP : va_P D vwCl ([(h0, .inr (4, [.int 0, .ref a1, .ref a2, .ref a3, .ref a4, .ref a5, .ref a6])), (a1, .inl (cj1, 19, .inr (.inl st.1))), (a2, .inl (cj2, 19, .inr (.inl st.2.1))), (a3, .inl (cj3, 19, .inr (.inl st.2.2.1))), (a4, .inl (cj4, 19, .inr (.inl st.2.2.2.1))), (a5, .inl (cj5, 19, .inr (.inl st.2.2.2.2.1))), (a6, .inl (cj6, 19, .inr (.inl st.2.2.2.2.2)))]) H := hP
      have hD : va_D A ([(h0, .inr (4, [.int 0, .ref a1, .ref a2, .ref a3, .ref a4, .ref a5, .ref a6])), (a1, .inl (cj1, 19, .inr (.inl st.1))), (a2, .inl (cj2, 19, .inr (.inl st.2.1))), (a3, .inl (cj3, 19, .inr (.inl st.2.2.1))), (a4, .inl (cj4, 19, .inr (.inl st.2.2.2.1))), (a5, .inl (cj5, 19, .inr (.inl st.2.2.2.2.1))), (a6, .inl (cj6, 19, .inr (.inl st.2.2.2.2.2)))]) := hD
      refine lv_if_ne (tgt := 101) hx hb dM_has_59 (by decide) (fun c5 => ?_) (fun c5 => ?_)
      · refine lv_iconst (v := 0) hx hb dM_has_101 (by decide) ?_
        have e9 : f_M_has st p1 p2 = (0, 0) := (if_neg c2).trans ((if_pos c3).trans ((if_neg c5).trans (rfl)))
        rw [sp_fst e9, sp_snd e9]
        exact sp_zret C hAe hP hK hD hS (Or.inl rfl) dM_has_102
      · refine lv_aload_n hx hb dM_has_62 rfl (lv_at hl 0 rfl) ?_
        refine va_get (D := D) (ci := 4) (v := .ref a4) (C := RM) (T := TM) (N := 7) hx hb hts hi4 hown hK hP 0 rfl rfl 4 (by decide) hk5 (fun _ h9 => h9) rfl dM_has_63 ?_
        refine lv_iload_n hx hb dM_has_66 rfl (lv_at hl 1 rfl) ?_
        refine va_lald hx hb hK hP 4 3 rfl rfl (mb_in c2) dM_has_67 ?_
        refine lv_lload_n hx hb dM_has_68 rfl (lv_at hl 2 rfl) ?_
        refine sp_callz (sp_runS (As := [.long (st.2.2.2.1 p1.toNatClampNeg), .long p2]) (rest := []) C (c_M_below l D (st.2.2.2.1 p1.toNatClampNeg) p2) (va_cwS 2 hts (gS wG_c wm_376 wm_377 wm_378 wm_375) rfl rfl rfl (by decide +kernel) ⟨Nat.le_of_ble_eq_true rfl, Nat.le_of_ble_eq_true rfl⟩) hK hP hD [] (by decide) rfl [] rfl rfl hl.1 rfl (Nat.le_of_ble_eq_true rfl) dM_has_69 ⟨Nat.le_of_ble_eq_true rfl, Nat.le_of_ble_eq_true rfl⟩) hP hD hS hA [] rfl sp_f0 (fun H locs z6 hP hD hS => ?_)
        have hP : va_P D vwCl ([(h0, .inr (4, [.int 0, .ref a1, .ref a2, .ref a3, .ref a4, .ref a5, .ref a6])), (a1, .inl (cj1, 19, .inr (.inl st.1))), (a2, .inl (cj2, 19, .inr (.inl st.2.1))), (a3, .inl (cj3, 19, .inr (.inl st.2.2.1))), (a4, .inl (cj4, 19, .inr (.inl st.2.2.2.1))), (a5, .inl (cj5, 19, .inr (.inl st.2.2.2.2.1))), (a6, .inl (cj6, 19, .inr (.inl st.2.2.2.2.2)))]) H := hP
        have hD : va_D A ([(h0, .inr (4, [.int 0, .ref a1, .ref a2, .ref a3, .ref a4, .ref a5, .ref a6])), (a1, .inl (cj1, 19, .inr (.inl st.1))), (a2, .inl (cj2, 19, .inr (.inl st.2.1))), (a3, .inl (cj3, 19, .inr (.inl st.2.2.1))), (a4, .inl (cj4, 19, .inr (.inl st.2.2.2.1))), (a5, .inl (cj5, 19, .inr (.inl st.2.2.2.2.1))), (a6, .inl (cj6, 19, .inr (.inl st.2.2.2.2.2)))]) := hD
        refine lv_if_ne (tgt := 101) hx hb dM_has_72 (by decide) (fun c7 => ?_) (fun c7 => ?_)
        · refine lv_iconst (v := 0) hx hb dM_has_101 (by decide) ?_
          have e9 : f_M_has st p1 p2 = (0, 0) := (if_neg c2).trans ((if_pos c3).trans ((if_pos c5).trans ((if_neg c7).trans (rfl))))
          rw [sp_fst e9, sp_snd e9]
          exact sp_zret C hAe hP hK hD hS (Or.inl rfl) dM_has_102
        · refine lv_lload_n hx hb dM_has_75 rfl (lv_at hl 2 rfl) ?_
          refine lv_aload_n hx hb dM_has_76 rfl (lv_at hl 0 rfl) ?_
          refine va_get (D := D) (ci := 4) (v := .ref a5) (C := RM) (T := TM) (N := 7) hx hb hts hi4 hown hK hP 0 rfl rfl 5 (by decide) hk6 (fun _ h9 => h9) rfl dM_has_77 ?_
          refine lv_iload_n hx hb dM_has_80 rfl (lv_at hl 1 rfl) ?_
          refine va_lald hx hb hK hP 5 4 rfl rfl (mb_in c2) dM_has_81 ?_
          refine W.lcmp hx hb dM_has_82 ?_
          refine lv_if_lt (tgt := 101) hx hb dM_has_83 (by decide) (fun c8 => ?_) (fun c8 => ?_)
          · refine lv_iconst (v := 0) hx hb dM_has_101 (by decide) ?_
            have e9 : f_M_has st p1 p2 = (0, 0) := (if_neg c2).trans ((if_pos c3).trans ((if_pos c5).trans ((if_pos c7).trans ((if_pos c8).trans (rfl)))))
            rw [sp_fst e9, sp_snd e9]
            exact sp_zret C hAe hP hK hD hS (Or.inl rfl) dM_has_102
          · refine lv_lload_n hx hb dM_has_86 rfl (lv_at hl 2 rfl) ?_
            refine lv_aload_n hx hb dM_has_87 rfl (lv_at hl 0 rfl) ?_
            refine va_get (D := D) (ci := 4) (v := .ref a6) (C := RM) (T := TM) (N := 7) hx hb hts hi4 hown hK hP 0 rfl rfl 6 (by decide) hk7 (fun _ h9 => h9) rfl dM_has_88 ?_
            refine lv_iload_n hx hb dM_has_91 rfl (lv_at hl 1 rfl) ?_
            refine va_lald hx hb hK hP 6 5 rfl rfl (mb_in c2) dM_has_92 ?_
            refine W.lcmp hx hb dM_has_93 ?_
            refine lv_if_gt (tgt := 101) hx hb dM_has_94 (by decide) (fun c9 => ?_) (fun c9 => ?_)
            · refine lv_iconst (v := 0) hx hb dM_has_101 (by decide) ?_
              have e9 : f_M_has st p1 p2 = (0, 0) := (if_neg c2).trans ((if_pos c3).trans ((if_pos c5).trans ((if_pos c7).trans ((if_neg c8).trans ((if_pos c9).trans (rfl))))))
              rw [sp_fst e9, sp_snd e9]
              exact sp_zret C hAe hP hK hD hS (Or.inl rfl) dM_has_102
            · refine lv_iconst (v := 1) hx hb dM_has_97 (by decide) ?_
              refine lv_goto (tgt := 102) hx hb dM_has_98 (by decide) ?_
              have e9 : f_M_has st p1 p2 = (0, 1) := (if_neg c2).trans ((if_pos c3).trans ((if_pos c5).trans ((if_pos c7).trans ((if_neg c8).trans ((if_neg c9).trans (rfl))))))
              rw [sp_fst e9, sp_snd e9]
              exact sp_zret C hAe hP hK hD hS (Or.inr rfl) dM_has_102
def f_M_covers (st : Md) (p1 : Int32) (p2 : Int32) : Int32 × Int32 :=
  if (f_M_is p1) = 0 then (1, 0)
  else if (f_M_is p2) = 0 then (1, 0)
  else if (lg_cmp ((st.2.1 p2.toNatClampNeg) &&& ((st.2.1 p1.toNatClampNeg) ^^^ (-1))) 0) = 0 then (if (lg_cmp (((st.1 p1.toNatClampNeg) ^^^ (st.1 p2.toNatClampNeg)) &&& ((st.2.1 p1.toNatClampNeg) ^^^ (-1))) 0) = 0 then (if (f_M_below (st.2.2.1 p2.toNatClampNeg) (st.2.2.1 p1.toNatClampNeg)) = 0 then (if (f_M_below (st.2.2.2.1 p1.toNatClampNeg) (st.2.2.2.1 p2.toNatClampNeg)) = 0 then (if 0 < (lg_cmp (st.2.2.2.2.1 p1.toNatClampNeg) (st.2.2.2.2.1 p2.toNatClampNeg)) then (0, 0)
          else if (lg_cmp (st.2.2.2.2.2 p1.toNatClampNeg) (st.2.2.2.2.2 p2.toNatClampNeg)) < 0 then (0, 0)
          else (0, 1))
        else (0, 0))
      else (0, 0))
    else (0, 0))
  else (0, 0)
set_option maxHeartbeats 4000000 in
set_option maxRecDepth 100000 in
theorem c_M_covers (l : Launch) (D : va_G) (h0 : Nat) (a1 : Nat) (a2 : Nat) (a3 : Nat) (a4 : Nat) (a5 : Nat) (a6 : Nat) (cj1 cj2 cj3 cj4 cj5 cj6 : ClassId) (th : Int32) (st : Md) (p1 : Int32) (p2 : Int32) : sp_M l yM_covers wsM_covers ({ frames := 1, cells := 0, slots := 0, locals := 23 }) D [.ref h0, .int p1, .int p2] ([(h0, .inr (4, [.int th, .ref a1, .ref a2, .ref a3, .ref a4, .ref a5, .ref a6])), (a1, .inl (cj1, 19, .inr (.inl st.1))), (a2, .inl (cj2, 19, .inr (.inl st.2.1))), (a3, .inl (cj3, 19, .inr (.inl st.2.2.1))), (a4, .inl (cj4, 19, .inr (.inl st.2.2.2.1))), (a5, .inl (cj5, 19, .inr (.inl st.2.2.2.2.1))), (a6, .inl (cj6, 19, .inr (.inl st.2.2.2.2.2)))]) [(cj1, .long), (cj2, .long), (cj3, .long), (cj4, .long), (cj5, .long), (cj6, .long)] (sp_Qz D ([(h0, .inr (4, [.int th, .ref a1, .ref a2, .ref a3, .ref a4, .ref a5, .ref a6])), (a1, .inl (cj1, 19, .inr (.inl st.1))), (a2, .inl (cj2, 19, .inr (.inl st.2.1))), (a3, .inl (cj3, 19, .inr (.inl st.2.2.1))), (a4, .inl (cj4, 19, .inr (.inl st.2.2.2.1))), (a5, .inl (cj5, 19, .inr (.inl st.2.2.2.2.1))), (a6, .inl (cj6, 19, .inr (.inl st.2.2.2.2.2)))]) ([(h0, .inr (4, [.int ((f_M_covers st p1 p2).1), .ref a1, .ref a2, .ref a3, .ref a4, .ref a5, .ref a6])), (a1, .inl (cj1, 19, .inr (.inl st.1))), (a2, .inl (cj2, 19, .inr (.inl st.2.1))), (a3, .inl (cj3, 19, .inr (.inl st.2.2.1))), (a4, .inl (cj4, 19, .inr (.inl st.2.2.2.1))), (a5, .inl (cj5, 19, .inr (.inl st.2.2.2.2.1))), (a6, .inl (cj6, 19, .inr (.inl st.2.2.2.2.2)))]) [(cj1, .long), (cj2, .long), (cj3, .long), (cj4, .long), (cj5, .long), (cj6, .long)] ((f_M_covers st p1 p2).2)) := by
  refine sp_ofW (cc := cM_covers) (nL := 4) (ret := (some .boolean)) (own := RM) (by decide) rfl rfl (Nat.le_of_ble_eq_true rfl) ?_
  intro p e s m below meth c A ls hAe hnm C hA hP hK hD hS hl
  have hx := C.1
  have hb := C.2.1
  have hown := C.2.2.2.2.1
  have hts := C.2.2.2.2.2.1
  have hl : lv_has ls 4 [(0, .ref h0), (1, .int p1), (2, .int p2)] := hl
  have hi4 : ∀ w ∈ u_ws RM TM 7, w ∈ wsM_covers := fun w h => List.mem_cons_of_mem _ (inM w h)
  have hk0 := hts _ (List.mem_cons_of_mem _ wm_532)
  have hk1 := hts _ (List.mem_cons_of_mem _ wm_383)
  have hk2 := hts _ (List.mem_cons_of_mem _ wm_381)
  have hk3 := hts _ (List.mem_cons_of_mem _ wm_382)
  have hk4 := hts _ (List.mem_cons_of_mem _ wm_384)
  have hk5 := hts _ (List.mem_cons_of_mem _ wm_385)
  have hk6 := hts _ (List.mem_cons_of_mem _ wm_386)
  have hk7 := hts _ (List.mem_cons_of_mem _ wm_387)
  refine lv_aload_n hx hb dM_covers_0 rfl (lv_at hl 0 rfl) ?_
  refine lv_iload_n hx hb dM_covers_1 rfl (lv_at hl 1 rfl) ?_
  refine sp_callz (sp_runS (As := [.int p1]) (rest := [.ref h0]) C (c_M_is l D p1) (va_cwS 1 hts (gS wG_c wm_522 wm_523 wm_378 wm_521) rfl rfl rfl (by decide +kernel) ⟨Nat.le_of_ble_eq_true rfl, Nat.le_of_ble_eq_true rfl⟩) hK hP hD [] (by decide) rfl [] rfl rfl hl.1 rfl (Nat.le_of_ble_eq_true rfl) dM_covers_2 ⟨Nat.le_of_ble_eq_true rfl, Nat.le_of_ble_eq_true rfl⟩) hP hD hS hA [] rfl sp_f0 (fun H locs z1 hP hD hS => ?_)
  have hP : va_P D vwCl ([(h0, .inr (4, [.int th, .ref a1, .ref a2, .ref a3, .ref a4, .ref a5, .ref a6])), (a1, .inl (cj1, 19, .inr (.inl st.1))), (a2, .inl (cj2, 19, .inr (.inl st.2.1))), (a3, .inl (cj3, 19, .inr (.inl st.2.2.1))), (a4, .inl (cj4, 19, .inr (.inl st.2.2.2.1))), (a5, .inl (cj5, 19, .inr (.inl st.2.2.2.2.1))), (a6, .inl (cj6, 19, .inr (.inl st.2.2.2.2.2)))]) H := hP
  have hD : va_D A ([(h0, .inr (4, [.int th, .ref a1, .ref a2, .ref a3, .ref a4, .ref a5, .ref a6])), (a1, .inl (cj1, 19, .inr (.inl st.1))), (a2, .inl (cj2, 19, .inr (.inl st.2.1))), (a3, .inl (cj3, 19, .inr (.inl st.2.2.1))), (a4, .inl (cj4, 19, .inr (.inl st.2.2.2.1))), (a5, .inl (cj5, 19, .inr (.inl st.2.2.2.2.1))), (a6, .inl (cj6, 19, .inr (.inl st.2.2.2.2.2)))]) := hD
  refine lv_if_eq (tgt := 19) hx hb dM_covers_5 (by decide) (fun c2 => ?_) (fun c2 => ?_)
  · refine lv_iconst (v := 1) hx hb dM_covers_19 (by decide) ?_
    refine va_put (D := D) (ci := 4) (v := .int 1) (ty := .int) (C := RM) (T := TM) (N := 7) hx hb hts hi4 tyM tyM_ok nmM hown hK hP hD hS 0 rfl rfl 0 (by decide) hk0 (fun _ h9 => h9) rfl (by decide +kernel) rfl rfl (Nat.le_of_ble_eq_true rfl) dM_covers_20 (fun H locs hP hD hS => ?_)
    have hP : va_P D vwCl ([(h0, .inr (4, [.int 1, .ref a1, .ref a2, .ref a3, .ref a4, .ref a5, .ref a6])), (a1, .inl (cj1, 19, .inr (.inl st.1))), (a2, .inl (cj2, 19, .inr (.inl st.2.1))), (a3, .inl (cj3, 19, .inr (.inl st.2.2.1))), (a4, .inl (cj4, 19, .inr (.inl st.2.2.2.1))), (a5, .inl (cj5, 19, .inr (.inl st.2.2.2.2.1))), (a6, .inl (cj6, 19, .inr (.inl st.2.2.2.2.2)))]) H := hP
    have hD : va_D A ([(h0, .inr (4, [.int 1, .ref a1, .ref a2, .ref a3, .ref a4, .ref a5, .ref a6])), (a1, .inl (cj1, 19, .inr (.inl st.1))), (a2, .inl (cj2, 19, .inr (.inl st.2.1))), (a3, .inl (cj3, 19, .inr (.inl st.2.2.1))), (a4, .inl (cj4, 19, .inr (.inl st.2.2.2.1))), (a5, .inl (cj5, 19, .inr (.inl st.2.2.2.2.1))), (a6, .inl (cj6, 19, .inr (.inl st.2.2.2.2.2)))]) := hD
    refine lv_aload_n hx hb dM_covers_23 rfl (lv_at hl 0 rfl) ?_
    refine va_get (D := D) (ci := 4) (v := .int 1) (C := RM) (T := TM) (N := 7) hx hb hts hi4 hown hK hP 0 rfl rfl 0 (by decide) hk0 (fun _ h9 => h9) rfl dM_covers_24 ?_
    refine lv_if_le (tgt := 32) hx hb dM_covers_27 (by decide) (fun h9 => absurd h9 (by decide)) (fun _ => ?_)
    refine lv_iconst (v := 0) hx hb dM_covers_30 (by decide) ?_
    have e9 : f_M_covers st p1 p2 = (1, 0) := (if_pos c2).trans (rfl)
    rw [sp_fst e9, sp_snd e9]
    exact sp_zret C hAe hP hK hD hS (Or.inl rfl) dM_covers_31
  · refine lv_iload_n hx hb dM_covers_8 rfl (lv_at hl 2 rfl) ?_
    refine sp_callz (sp_runS (As := [.int p2]) (rest := [.ref h0]) C (c_M_is l D p2) (va_cwS 1 hts (gS wG_c wm_522 wm_523 wm_378 wm_521) rfl rfl rfl (by decide +kernel) ⟨Nat.le_of_ble_eq_true rfl, Nat.le_of_ble_eq_true rfl⟩) hK hP hD [] (by decide) rfl [] rfl rfl hl.1 rfl (Nat.le_of_ble_eq_true rfl) dM_covers_9 ⟨Nat.le_of_ble_eq_true rfl, Nat.le_of_ble_eq_true rfl⟩) hP hD hS hA [] rfl sp_f0 (fun H locs z3 hP hD hS => ?_)
    have hP : va_P D vwCl ([(h0, .inr (4, [.int th, .ref a1, .ref a2, .ref a3, .ref a4, .ref a5, .ref a6])), (a1, .inl (cj1, 19, .inr (.inl st.1))), (a2, .inl (cj2, 19, .inr (.inl st.2.1))), (a3, .inl (cj3, 19, .inr (.inl st.2.2.1))), (a4, .inl (cj4, 19, .inr (.inl st.2.2.2.1))), (a5, .inl (cj5, 19, .inr (.inl st.2.2.2.2.1))), (a6, .inl (cj6, 19, .inr (.inl st.2.2.2.2.2)))]) H := hP
    have hD : va_D A ([(h0, .inr (4, [.int th, .ref a1, .ref a2, .ref a3, .ref a4, .ref a5, .ref a6])), (a1, .inl (cj1, 19, .inr (.inl st.1))), (a2, .inl (cj2, 19, .inr (.inl st.2.1))), (a3, .inl (cj3, 19, .inr (.inl st.2.2.1))), (a4, .inl (cj4, 19, .inr (.inl st.2.2.2.1))), (a5, .inl (cj5, 19, .inr (.inl st.2.2.2.2.1))), (a6, .inl (cj6, 19, .inr (.inl st.2.2.2.2.2)))]) := hD
    refine lv_if_eq (tgt := 19) hx hb dM_covers_12 (by decide) (fun c4 => ?_) (fun c4 => ?_)
    · refine lv_iconst (v := 1) hx hb dM_covers_19 (by decide) ?_
      refine va_put (D := D) (ci := 4) (v := .int 1) (ty := .int) (C := RM) (T := TM) (N := 7) hx hb hts hi4 tyM tyM_ok nmM hown hK hP hD hS 0 rfl rfl 0 (by decide) hk0 (fun _ h9 => h9) rfl (by decide +kernel) rfl rfl (Nat.le_of_ble_eq_true rfl) dM_covers_20 (fun H locs hP hD hS => ?_)
      have hP : va_P D vwCl ([(h0, .inr (4, [.int 1, .ref a1, .ref a2, .ref a3, .ref a4, .ref a5, .ref a6])), (a1, .inl (cj1, 19, .inr (.inl st.1))), (a2, .inl (cj2, 19, .inr (.inl st.2.1))), (a3, .inl (cj3, 19, .inr (.inl st.2.2.1))), (a4, .inl (cj4, 19, .inr (.inl st.2.2.2.1))), (a5, .inl (cj5, 19, .inr (.inl st.2.2.2.2.1))), (a6, .inl (cj6, 19, .inr (.inl st.2.2.2.2.2)))]) H := hP
      have hD : va_D A ([(h0, .inr (4, [.int 1, .ref a1, .ref a2, .ref a3, .ref a4, .ref a5, .ref a6])), (a1, .inl (cj1, 19, .inr (.inl st.1))), (a2, .inl (cj2, 19, .inr (.inl st.2.1))), (a3, .inl (cj3, 19, .inr (.inl st.2.2.1))), (a4, .inl (cj4, 19, .inr (.inl st.2.2.2.1))), (a5, .inl (cj5, 19, .inr (.inl st.2.2.2.2.1))), (a6, .inl (cj6, 19, .inr (.inl st.2.2.2.2.2)))]) := hD
      refine lv_aload_n hx hb dM_covers_23 rfl (lv_at hl 0 rfl) ?_
      refine va_get (D := D) (ci := 4) (v := .int 1) (C := RM) (T := TM) (N := 7) hx hb hts hi4 hown hK hP 0 rfl rfl 0 (by decide) hk0 (fun _ h9 => h9) rfl dM_covers_24 ?_
      refine lv_if_le (tgt := 32) hx hb dM_covers_27 (by decide) (fun h9 => absurd h9 (by decide)) (fun _ => ?_)
      refine lv_iconst (v := 0) hx hb dM_covers_30 (by decide) ?_
      have e9 : f_M_covers st p1 p2 = (1, 0) := (if_neg c2).trans ((if_pos c4).trans (rfl))
      rw [sp_fst e9, sp_snd e9]
      exact sp_zret C hAe hP hK hD hS (Or.inl rfl) dM_covers_31
    · refine lv_iconst (v := 0) hx hb dM_covers_15 (by decide) ?_
      refine lv_goto (tgt := 20) hx hb dM_covers_16 (by decide) ?_
      refine va_put (D := D) (ci := 4) (v := .int 0) (ty := .int) (C := RM) (T := TM) (N := 7) hx hb hts hi4 tyM tyM_ok nmM hown hK hP hD hS 0 rfl rfl 0 (by decide) hk0 (fun _ h9 => h9) rfl (by decide +kernel) rfl rfl (Nat.le_of_ble_eq_true rfl) dM_covers_20 (fun H locs hP hD hS => ?_)
      have hP : va_P D vwCl ([(h0, .inr (4, [.int 0, .ref a1, .ref a2, .ref a3, .ref a4, .ref a5, .ref a6])), (a1, .inl (cj1, 19, .inr (.inl st.1))), (a2, .inl (cj2, 19, .inr (.inl st.2.1))), (a3, .inl (cj3, 19, .inr (.inl st.2.2.1))), (a4, .inl (cj4, 19, .inr (.inl st.2.2.2.1))), (a5, .inl (cj5, 19, .inr (.inl st.2.2.2.2.1))), (a6, .inl (cj6, 19, .inr (.inl st.2.2.2.2.2)))]) H := hP
      have hD : va_D A ([(h0, .inr (4, [.int 0, .ref a1, .ref a2, .ref a3, .ref a4, .ref a5, .ref a6])), (a1, .inl (cj1, 19, .inr (.inl st.1))), (a2, .inl (cj2, 19, .inr (.inl st.2.1))), (a3, .inl (cj3, 19, .inr (.inl st.2.2.1))), (a4, .inl (cj4, 19, .inr (.inl st.2.2.2.1))), (a5, .inl (cj5, 19, .inr (.inl st.2.2.2.2.1))), (a6, .inl (cj6, 19, .inr (.inl st.2.2.2.2.2)))]) := hD
      refine lv_aload_n hx hb dM_covers_23 rfl (lv_at hl 0 rfl) ?_
      refine va_get (D := D) (ci := 4) (v := .int 0) (C := RM) (T := TM) (N := 7) hx hb hts hi4 hown hK hP 0 rfl rfl 0 (by decide) hk0 (fun _ h9 => h9) rfl dM_covers_24 ?_
      refine lv_if_le (tgt := 32) hx hb dM_covers_27 (by decide) (fun _ => ?_) (fun h9 => absurd h9 (by decide))
      refine lv_aload_n hx hb dM_covers_32 rfl (lv_at hl 0 rfl) ?_
      refine va_get (D := D) (ci := 4) (v := .ref a2) (C := RM) (T := TM) (N := 7) hx hb hts hi4 hown hK hP 0 rfl rfl 2 (by decide) hk1 (fun _ h9 => h9) rfl dM_covers_33 ?_
      refine lv_iload_n hx hb dM_covers_36 rfl (lv_at hl 2 rfl) ?_
      refine va_lald hx hb hK hP 2 1 rfl rfl (mb_in c4) dM_covers_37 ?_
      refine lv_aload_n hx hb dM_covers_38 rfl (lv_at hl 0 rfl) ?_
      refine va_get (D := D) (ci := 4) (v := .ref a2) (C := RM) (T := TM) (N := 7) hx hb hts hi4 hown hK hP 0 rfl rfl 2 (by decide) hk1 (fun _ h9 => h9) rfl dM_covers_39 ?_
      refine lv_iload_n hx hb dM_covers_42 rfl (lv_at hl 1 rfl) ?_
      refine va_lald hx hb hK hP 2 1 rfl rfl (mb_in c2) dM_covers_43 ?_
      refine lv_ldc2 (v := (-1)) hx hb hown hk2 dM_covers_44 ?_
      refine lv_lxor hx hb dM_covers_47 ?_
      refine lv_land hx hb dM_covers_48 ?_
      refine lv_lconst (v := 0) hx hb dM_covers_49 (by decide) ?_
      refine W.lcmp hx hb dM_covers_50 ?_
      refine lv_if_ne (tgt := 87) hx hb dM_covers_51 (by decide) (fun c5 => ?_) (fun c5 => ?_)
      · refine lv_iconst (v := 0) hx hb dM_covers_87 (by decide) ?_
        refine lv_istore_n (lv' := [(3, .int 0), (0, .ref h0), (1, .int p1), (2, .int p2)]) hx hb dM_covers_88 rfl hl (by decide) rfl (fun ls hl => ?_)
        refine lv_iload_n hx hb dM_covers_89 rfl (lv_at hl 0 rfl) ?_
        refine lv_if_eq (tgt := 165) hx hb dM_covers_90 (by decide) (fun _ => ?_) (fun h9 => absurd h9 (by decide))
        refine lv_iconst (v := 0) hx hb dM_covers_165 (by decide) ?_
        have e9 : f_M_covers st p1 p2 = (0, 0) := (if_neg c2).trans ((if_neg c4).trans ((if_neg c5).trans (rfl)))
        rw [sp_fst e9, sp_snd e9]
        exact sp_zret C hAe hP hK hD hS (Or.inl rfl) dM_covers_166
      · refine lv_aload_n hx hb dM_covers_54 rfl (lv_at hl 0 rfl) ?_
        refine va_get (D := D) (ci := 4) (v := .ref a1) (C := RM) (T := TM) (N := 7) hx hb hts hi4 hown hK hP 0 rfl rfl 1 (by decide) hk3 (fun _ h9 => h9) rfl dM_covers_55 ?_
        refine lv_iload_n hx hb dM_covers_58 rfl (lv_at hl 1 rfl) ?_
        refine va_lald hx hb hK hP 1 0 rfl rfl (mb_in c2) dM_covers_59 ?_
        refine lv_aload_n hx hb dM_covers_60 rfl (lv_at hl 0 rfl) ?_
        refine va_get (D := D) (ci := 4) (v := .ref a1) (C := RM) (T := TM) (N := 7) hx hb hts hi4 hown hK hP 0 rfl rfl 1 (by decide) hk3 (fun _ h9 => h9) rfl dM_covers_61 ?_
        refine lv_iload_n hx hb dM_covers_64 rfl (lv_at hl 2 rfl) ?_
        refine va_lald hx hb hK hP 1 0 rfl rfl (mb_in c4) dM_covers_65 ?_
        refine lv_lxor hx hb dM_covers_66 ?_
        refine lv_aload_n hx hb dM_covers_67 rfl (lv_at hl 0 rfl) ?_
        refine va_get (D := D) (ci := 4) (v := .ref a2) (C := RM) (T := TM) (N := 7) hx hb hts hi4 hown hK hP 0 rfl rfl 2 (by decide) hk1 (fun _ h9 => h9) rfl dM_covers_68 ?_
        refine lv_iload_n hx hb dM_covers_71 rfl (lv_at hl 1 rfl) ?_
        refine va_lald hx hb hK hP 2 1 rfl rfl (mb_in c2) dM_covers_72 ?_
        refine lv_ldc2 (v := (-1)) hx hb hown hk2 dM_covers_73 ?_
        refine lv_lxor hx hb dM_covers_76 ?_
        refine lv_land hx hb dM_covers_77 ?_
        refine lv_lconst (v := 0) hx hb dM_covers_78 (by decide) ?_
        refine W.lcmp hx hb dM_covers_79 ?_
        refine lv_if_ne (tgt := 87) hx hb dM_covers_80 (by decide) (fun c6 => ?_) (fun c6 => ?_)
        · refine lv_iconst (v := 0) hx hb dM_covers_87 (by decide) ?_
          refine lv_istore_n (lv' := [(3, .int 0), (0, .ref h0), (1, .int p1), (2, .int p2)]) hx hb dM_covers_88 rfl hl (by decide) rfl (fun ls hl => ?_)
          refine lv_iload_n hx hb dM_covers_89 rfl (lv_at hl 0 rfl) ?_
          refine lv_if_eq (tgt := 165) hx hb dM_covers_90 (by decide) (fun _ => ?_) (fun h9 => absurd h9 (by decide))
          refine lv_iconst (v := 0) hx hb dM_covers_165 (by decide) ?_
          have e9 : f_M_covers st p1 p2 = (0, 0) := (if_neg c2).trans ((if_neg c4).trans ((if_pos c5).trans ((if_neg c6).trans (rfl))))
          rw [sp_fst e9, sp_snd e9]
          exact sp_zret C hAe hP hK hD hS (Or.inl rfl) dM_covers_166
        · refine lv_iconst (v := 1) hx hb dM_covers_83 (by decide) ?_
          refine lv_goto (tgt := 88) hx hb dM_covers_84 (by decide) ?_
          refine lv_istore_n (lv' := [(3, .int 1), (0, .ref h0), (1, .int p1), (2, .int p2)]) hx hb dM_covers_88 rfl hl (by decide) rfl (fun ls hl => ?_)
          refine lv_iload_n hx hb dM_covers_89 rfl (lv_at hl 0 rfl) ?_
          refine lv_if_eq (tgt := 165) hx hb dM_covers_90 (by decide) (fun h9 => absurd h9 (by decide)) (fun _ => ?_)
          refine lv_aload_n hx hb dM_covers_93 rfl (lv_at hl 1 rfl) ?_
          refine va_get (D := D) (ci := 4) (v := .ref a3) (C := RM) (T := TM) (N := 7) hx hb hts hi4 hown hK hP 0 rfl rfl 3 (by decide) hk4 (fun _ h9 => h9) rfl dM_covers_94 ?_
          refine lv_iload_n hx hb dM_covers_97 rfl (lv_at hl 3 rfl) ?_
          refine va_lald hx hb hK hP 3 2 rfl rfl (mb_in c4) dM_covers_98 ?_
          refine lv_aload_n hx hb dM_covers_99 rfl (lv_at hl 1 rfl) ?_
          refine va_get (D := D) (ci := 4) (v := .ref a3) (C := RM) (T := TM) (N := 7) hx hb hts hi4 hown hK hP 0 rfl rfl 3 (by decide) hk4 (fun _ h9 => h9) rfl dM_covers_100 ?_
          refine lv_iload_n hx hb dM_covers_103 rfl (lv_at hl 2 rfl) ?_
          refine va_lald hx hb hK hP 3 2 rfl rfl (mb_in c2) dM_covers_104 ?_
          refine sp_callz (sp_runS (As := [.long (st.2.2.1 p2.toNatClampNeg), .long (st.2.2.1 p1.toNatClampNeg)]) (rest := []) C (c_M_below l D (st.2.2.1 p2.toNatClampNeg) (st.2.2.1 p1.toNatClampNeg)) (va_cwS 2 hts (gS wG_c wm_376 wm_377 wm_378 wm_375) rfl rfl rfl (by decide +kernel) ⟨Nat.le_of_ble_eq_true rfl, Nat.le_of_ble_eq_true rfl⟩) hK hP hD [] (by decide) rfl [] rfl rfl hl.1 rfl (Nat.le_of_ble_eq_true rfl) dM_covers_105 ⟨Nat.le_of_ble_eq_true rfl, Nat.le_of_ble_eq_true rfl⟩) hP hD hS hA [] rfl sp_f0 (fun H locs z7 hP hD hS => ?_)
          have hP : va_P D vwCl ([(h0, .inr (4, [.int 0, .ref a1, .ref a2, .ref a3, .ref a4, .ref a5, .ref a6])), (a1, .inl (cj1, 19, .inr (.inl st.1))), (a2, .inl (cj2, 19, .inr (.inl st.2.1))), (a3, .inl (cj3, 19, .inr (.inl st.2.2.1))), (a4, .inl (cj4, 19, .inr (.inl st.2.2.2.1))), (a5, .inl (cj5, 19, .inr (.inl st.2.2.2.2.1))), (a6, .inl (cj6, 19, .inr (.inl st.2.2.2.2.2)))]) H := hP
          have hD : va_D A ([(h0, .inr (4, [.int 0, .ref a1, .ref a2, .ref a3, .ref a4, .ref a5, .ref a6])), (a1, .inl (cj1, 19, .inr (.inl st.1))), (a2, .inl (cj2, 19, .inr (.inl st.2.1))), (a3, .inl (cj3, 19, .inr (.inl st.2.2.1))), (a4, .inl (cj4, 19, .inr (.inl st.2.2.2.1))), (a5, .inl (cj5, 19, .inr (.inl st.2.2.2.2.1))), (a6, .inl (cj6, 19, .inr (.inl st.2.2.2.2.2)))]) := hD
          refine lv_if_ne (tgt := 165) hx hb dM_covers_108 (by decide) (fun c8 => ?_) (fun c8 => ?_)
          · refine lv_iconst (v := 0) hx hb dM_covers_165 (by decide) ?_
            have e9 : f_M_covers st p1 p2 = (0, 0) := (if_neg c2).trans ((if_neg c4).trans ((if_pos c5).trans ((if_pos c6).trans ((if_neg c8).trans (rfl)))))
            rw [sp_fst e9, sp_snd e9]
            exact sp_zret C hAe hP hK hD hS (Or.inl rfl) dM_covers_166
          · refine lv_aload_n hx hb dM_covers_111 rfl (lv_at hl 1 rfl) ?_
            refine va_get (D := D) (ci := 4) (v := .ref a4) (C := RM) (T := TM) (N := 7) hx hb hts hi4 hown hK hP 0 rfl rfl 4 (by decide) hk5 (fun _ h9 => h9) rfl dM_covers_112 ?_
            refine lv_iload_n hx hb dM_covers_115 rfl (lv_at hl 2 rfl) ?_
            refine va_lald hx hb hK hP 4 3 rfl rfl (mb_in c2) dM_covers_116 ?_
            refine lv_aload_n hx hb dM_covers_117 rfl (lv_at hl 1 rfl) ?_
            refine va_get (D := D) (ci := 4) (v := .ref a4) (C := RM) (T := TM) (N := 7) hx hb hts hi4 hown hK hP 0 rfl rfl 4 (by decide) hk5 (fun _ h9 => h9) rfl dM_covers_118 ?_
            refine lv_iload_n hx hb dM_covers_121 rfl (lv_at hl 3 rfl) ?_
            refine va_lald hx hb hK hP 4 3 rfl rfl (mb_in c4) dM_covers_122 ?_
            refine sp_callz (sp_runS (As := [.long (st.2.2.2.1 p1.toNatClampNeg), .long (st.2.2.2.1 p2.toNatClampNeg)]) (rest := []) C (c_M_below l D (st.2.2.2.1 p1.toNatClampNeg) (st.2.2.2.1 p2.toNatClampNeg)) (va_cwS 2 hts (gS wG_c wm_376 wm_377 wm_378 wm_375) rfl rfl rfl (by decide +kernel) ⟨Nat.le_of_ble_eq_true rfl, Nat.le_of_ble_eq_true rfl⟩) hK hP hD [] (by decide) rfl [] rfl rfl hl.1 rfl (Nat.le_of_ble_eq_true rfl) dM_covers_123 ⟨Nat.le_of_ble_eq_true rfl, Nat.le_of_ble_eq_true rfl⟩) hP hD hS hA [] rfl sp_f0 (fun H locs z9 hP hD hS => ?_)
            have hP : va_P D vwCl ([(h0, .inr (4, [.int 0, .ref a1, .ref a2, .ref a3, .ref a4, .ref a5, .ref a6])), (a1, .inl (cj1, 19, .inr (.inl st.1))), (a2, .inl (cj2, 19, .inr (.inl st.2.1))), (a3, .inl (cj3, 19, .inr (.inl st.2.2.1))), (a4, .inl (cj4, 19, .inr (.inl st.2.2.2.1))), (a5, .inl (cj5, 19, .inr (.inl st.2.2.2.2.1))), (a6, .inl (cj6, 19, .inr (.inl st.2.2.2.2.2)))]) H := hP
            have hD : va_D A ([(h0, .inr (4, [.int 0, .ref a1, .ref a2, .ref a3, .ref a4, .ref a5, .ref a6])), (a1, .inl (cj1, 19, .inr (.inl st.1))), (a2, .inl (cj2, 19, .inr (.inl st.2.1))), (a3, .inl (cj3, 19, .inr (.inl st.2.2.1))), (a4, .inl (cj4, 19, .inr (.inl st.2.2.2.1))), (a5, .inl (cj5, 19, .inr (.inl st.2.2.2.2.1))), (a6, .inl (cj6, 19, .inr (.inl st.2.2.2.2.2)))]) := hD
            refine lv_if_ne (tgt := 165) hx hb dM_covers_126 (by decide) (fun c10 => ?_) (fun c10 => ?_)
            · refine lv_iconst (v := 0) hx hb dM_covers_165 (by decide) ?_
              have e9 : f_M_covers st p1 p2 = (0, 0) := (if_neg c2).trans ((if_neg c4).trans ((if_pos c5).trans ((if_pos c6).trans ((if_pos c8).trans ((if_neg c10).trans (rfl))))))
              rw [sp_fst e9, sp_snd e9]
              exact sp_zret C hAe hP hK hD hS (Or.inl rfl) dM_covers_166
            · refine lv_aload_n hx hb dM_covers_129 rfl (lv_at hl 1 rfl) ?_
              refine va_get (D := D) (ci := 4) (v := .ref a5) (C := RM) (T := TM) (N := 7) hx hb hts hi4 hown hK hP 0 rfl rfl 5 (by decide) hk6 (fun _ h9 => h9) rfl dM_covers_130 ?_
              refine lv_iload_n hx hb dM_covers_133 rfl (lv_at hl 2 rfl) ?_
              refine va_lald hx hb hK hP 5 4 rfl rfl (mb_in c2) dM_covers_134 ?_
              refine lv_aload_n hx hb dM_covers_135 rfl (lv_at hl 1 rfl) ?_
              refine va_get (D := D) (ci := 4) (v := .ref a5) (C := RM) (T := TM) (N := 7) hx hb hts hi4 hown hK hP 0 rfl rfl 5 (by decide) hk6 (fun _ h9 => h9) rfl dM_covers_136 ?_
              refine lv_iload_n hx hb dM_covers_139 rfl (lv_at hl 3 rfl) ?_
              refine va_lald hx hb hK hP 5 4 rfl rfl (mb_in c4) dM_covers_140 ?_
              refine W.lcmp hx hb dM_covers_141 ?_
              refine lv_if_gt (tgt := 165) hx hb dM_covers_142 (by decide) (fun c11 => ?_) (fun c11 => ?_)
              · refine lv_iconst (v := 0) hx hb dM_covers_165 (by decide) ?_
                have e9 : f_M_covers st p1 p2 = (0, 0) := (if_neg c2).trans ((if_neg c4).trans ((if_pos c5).trans ((if_pos c6).trans ((if_pos c8).trans ((if_pos c10).trans ((if_pos c11).trans (rfl)))))))
                rw [sp_fst e9, sp_snd e9]
                exact sp_zret C hAe hP hK hD hS (Or.inl rfl) dM_covers_166
              · refine lv_aload_n hx hb dM_covers_145 rfl (lv_at hl 1 rfl) ?_
                refine va_get (D := D) (ci := 4) (v := .ref a6) (C := RM) (T := TM) (N := 7) hx hb hts hi4 hown hK hP 0 rfl rfl 6 (by decide) hk7 (fun _ h9 => h9) rfl dM_covers_146 ?_
                refine lv_iload_n hx hb dM_covers_149 rfl (lv_at hl 2 rfl) ?_
                refine va_lald hx hb hK hP 6 5 rfl rfl (mb_in c2) dM_covers_150 ?_
                refine lv_aload_n hx hb dM_covers_151 rfl (lv_at hl 1 rfl) ?_
                refine va_get (D := D) (ci := 4) (v := .ref a6) (C := RM) (T := TM) (N := 7) hx hb hts hi4 hown hK hP 0 rfl rfl 6 (by decide) hk7 (fun _ h9 => h9) rfl dM_covers_152 ?_
                refine lv_iload_n hx hb dM_covers_155 rfl (lv_at hl 3 rfl) ?_
                refine va_lald hx hb hK hP 6 5 rfl rfl (mb_in c4) dM_covers_156 ?_
                refine W.lcmp hx hb dM_covers_157 ?_
                refine lv_if_lt (tgt := 165) hx hb dM_covers_158 (by decide) (fun c12 => ?_) (fun c12 => ?_)
                · refine lv_iconst (v := 0) hx hb dM_covers_165 (by decide) ?_
                  have e9 : f_M_covers st p1 p2 = (0, 0) := (if_neg c2).trans ((if_neg c4).trans ((if_pos c5).trans ((if_pos c6).trans ((if_pos c8).trans ((if_pos c10).trans ((if_neg c11).trans ((if_pos c12).trans (rfl))))))))
                  rw [sp_fst e9, sp_snd e9]
                  exact sp_zret C hAe hP hK hD hS (Or.inl rfl) dM_covers_166
                · refine lv_iconst (v := 1) hx hb dM_covers_161 (by decide) ?_
                  refine lv_goto (tgt := 166) hx hb dM_covers_162 (by decide) ?_
                  have e9 : f_M_covers st p1 p2 = (0, 1) := (if_neg c2).trans ((if_neg c4).trans ((if_pos c5).trans ((if_pos c6).trans ((if_pos c8).trans ((if_pos c10).trans ((if_neg c11).trans ((if_neg c12).trans (rfl))))))))
                  rw [sp_fst e9, sp_snd e9]
                  exact sp_zret C hAe hP hK hD hS (Or.inr rfl) dM_covers_166
