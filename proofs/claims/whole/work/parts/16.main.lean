theorem dX9_init_0 : decode cX9_init 0 = .ok (.aload_n 0, 1) := by decide +kernel
theorem dX9_init_1 : decode cX9_init 1 = .ok (.invokespecial 3, 3) := by decide +kernel
theorem dX9_init_4 : decode cX9_init 4 = .ok (.aload_n 0, 1) := by decide +kernel
theorem dX9_init_5 : decode cX9_init 5 = .ok (.new 9, 3) := by decide +kernel
theorem dX9_init_8 : decode cX9_init 8 = .ok (.dup, 1) := by decide +kernel
theorem dX9_init_9 : decode cX9_init 9 = .ok (.invokespecial 11, 3) := by decide +kernel
theorem dX9_init_12 : decode cX9_init 12 = .ok (.putfield 12, 3) := by decide +kernel
theorem dX9_init_15 : decode cX9_init 15 = .ok (.aload_n 0, 1) := by decide +kernel
theorem dX9_init_16 : decode cX9_init 16 = .ok (.new 9, 3) := by decide +kernel
theorem dX9_init_19 : decode cX9_init 19 = .ok (.dup, 1) := by decide +kernel
theorem dX9_init_20 : decode cX9_init 20 = .ok (.invokespecial 11, 3) := by decide +kernel
theorem dX9_init_23 : decode cX9_init 23 = .ok (.putfield 16, 3) := by decide +kernel
theorem dX9_init_26 : decode cX9_init 26 = .ok (.aload_n 0, 1) := by decide +kernel
theorem dX9_init_27 : decode cX9_init 27 = .ok (.new 9, 3) := by decide +kernel
theorem dX9_init_30 : decode cX9_init 30 = .ok (.dup, 1) := by decide +kernel
theorem dX9_init_31 : decode cX9_init 31 = .ok (.invokespecial 11, 3) := by decide +kernel
theorem dX9_init_34 : decode cX9_init 34 = .ok (.putfield 19, 3) := by decide +kernel
theorem dX9_init_37 : decode cX9_init 37 = .ok (.aload_n 0, 1) := by decide +kernel
theorem dX9_init_38 : decode cX9_init 38 = .ok (.new 22, 3) := by decide +kernel
theorem dX9_init_41 : decode cX9_init 41 = .ok (.dup, 1) := by decide +kernel
theorem dX9_init_42 : decode cX9_init 42 = .ok (.invokespecial 24, 3) := by decide +kernel
theorem dX9_init_45 : decode cX9_init 45 = .ok (.putfield 25, 3) := by decide +kernel
theorem dX9_init_48 : decode cX9_init 48 = .ok (.aload_n 0, 1) := by decide +kernel
theorem dX9_init_49 : decode cX9_init 49 = .ok (.new 29, 3) := by decide +kernel
theorem dX9_init_52 : decode cX9_init 52 = .ok (.dup, 1) := by decide +kernel
theorem dX9_init_53 : decode cX9_init 53 = .ok (.invokespecial 31, 3) := by decide +kernel
theorem dX9_init_56 : decode cX9_init 56 = .ok (.putfield 32, 3) := by decide +kernel
theorem dX9_init_59 : decode cX9_init 59 = .ok (.aload_n 0, 1) := by decide +kernel
theorem dX9_init_60 : decode cX9_init 60 = .ok (.iconst 4, 1) := by decide +kernel
theorem dX9_init_61 : decode cX9_init 61 = .ok (.anewarray 36, 3) := by decide +kernel
theorem dX9_init_64 : decode cX9_init 64 = .ok (.putfield 38, 3) := by decide +kernel
theorem dX9_init_67 : decode cX9_init 67 = .ok (.aload_n 0, 1) := by decide +kernel
theorem dX9_init_68 : decode cX9_init 68 = .ok (.iconst 5, 1) := by decide +kernel
theorem dX9_init_69 : decode cX9_init 69 = .ok (.anewarray 42, 3) := by decide +kernel
theorem dX9_init_72 : decode cX9_init 72 = .ok (.putfield 44, 3) := by decide +kernel
theorem dX9_init_75 : decode cX9_init 75 = .ok (.aload_n 0, 1) := by decide +kernel
theorem dX9_init_76 : decode cX9_init 76 = .ok (.bipush 60, 2) := by decide +kernel
theorem dX9_init_78 : decode cX9_init 78 = .ok (.newarray .int, 2) := by decide +kernel
theorem dX9_init_80 : decode cX9_init 80 = .ok (.putfield 48, 3) := by decide +kernel
theorem dX9_init_83 : decode cX9_init 83 = .ok (.aload_n 0, 1) := by decide +kernel
theorem dX9_init_84 : decode cX9_init 84 = .ok (.bipush 10, 2) := by decide +kernel
theorem dX9_init_86 : decode cX9_init 86 = .ok (.newarray .int, 2) := by decide +kernel
theorem dX9_init_88 : decode cX9_init 88 = .ok (.putfield 52, 3) := by decide +kernel
theorem dX9_init_91 : decode cX9_init 91 = .ok (.aload_n 0, 1) := by decide +kernel
theorem dX9_init_92 : decode cX9_init 92 = .ok (.iconst 0, 1) := by decide +kernel
theorem dX9_init_93 : decode cX9_init 93 = .ok (.putfield 55, 3) := by decide +kernel
theorem dX9_init_96 : decode cX9_init 96 = .ok (.aload_n 0, 1) := by decide +kernel
theorem dX9_init_97 : decode cX9_init 97 = .ok (.iconst 0, 1) := by decide +kernel
theorem dX9_init_98 : decode cX9_init 98 = .ok (.putfield 59, 3) := by decide +kernel
theorem dX9_init_101 : decode cX9_init 101 = .ok (.iconst 0, 1) := by decide +kernel
theorem dX9_init_102 : decode cX9_init 102 = .ok (.istore_n 1, 1) := by decide +kernel
theorem dX9_init_103 : decode cX9_init 103 = .ok (.iload_n 1, 1) := by decide +kernel
theorem dX9_init_104 : decode cX9_init 104 = .ok (.iconst 4, 1) := by decide +kernel
theorem dX9_init_105 : decode cX9_init 105 = .ok (.if_icmp .ge 22, 3) := by decide +kernel
theorem dX9_init_108 : decode cX9_init 108 = .ok (.aload_n 0, 1) := by decide +kernel
theorem dX9_init_109 : decode cX9_init 109 = .ok (.getfield 38, 3) := by decide +kernel
theorem dX9_init_112 : decode cX9_init 112 = .ok (.iload_n 1, 1) := by decide +kernel
theorem dX9_init_113 : decode cX9_init 113 = .ok (.new 36, 3) := by decide +kernel
theorem dX9_init_116 : decode cX9_init 116 = .ok (.dup, 1) := by decide +kernel
theorem dX9_init_117 : decode cX9_init 117 = .ok (.invokespecial 63, 3) := by decide +kernel
theorem dX9_init_120 : decode cX9_init 120 = .ok (.aastore, 1) := by decide +kernel
theorem dX9_init_121 : decode cX9_init 121 = .ok (.iinc 1 1, 3) := by decide +kernel
theorem dX9_init_124 : decode cX9_init 124 = .ok (.goto (-21), 3) := by decide +kernel
theorem dX9_init_127 : decode cX9_init 127 = .ok (.iconst 0, 1) := by decide +kernel
theorem dX9_init_128 : decode cX9_init 128 = .ok (.istore_n 1, 1) := by decide +kernel
theorem dX9_init_129 : decode cX9_init 129 = .ok (.iload_n 1, 1) := by decide +kernel
theorem dX9_init_130 : decode cX9_init 130 = .ok (.iconst 5, 1) := by decide +kernel
theorem dX9_init_131 : decode cX9_init 131 = .ok (.if_icmp .ge 22, 3) := by decide +kernel
theorem dX9_init_134 : decode cX9_init 134 = .ok (.aload_n 0, 1) := by decide +kernel
theorem dX9_init_135 : decode cX9_init 135 = .ok (.getfield 44, 3) := by decide +kernel
theorem dX9_init_138 : decode cX9_init 138 = .ok (.iload_n 1, 1) := by decide +kernel
theorem dX9_init_139 : decode cX9_init 139 = .ok (.new 42, 3) := by decide +kernel
theorem dX9_init_142 : decode cX9_init 142 = .ok (.dup, 1) := by decide +kernel
theorem dX9_init_143 : decode cX9_init 143 = .ok (.invokespecial 64, 3) := by decide +kernel
theorem dX9_init_146 : decode cX9_init 146 = .ok (.aastore, 1) := by decide +kernel
theorem dX9_init_147 : decode cX9_init 147 = .ok (.iinc 1 1, 3) := by decide +kernel
theorem dX9_init_150 : decode cX9_init 150 = .ok (.goto (-21), 3) := by decide +kernel
theorem dX9_init_153 : decode cX9_init 153 = .ok (.return_, 1) := by decide +kernel
abbrev x_X9_init (E : mh_E) (d mc ms : Nat) (Post : Option Value → mh_H → Prop) : mh_X := (E, yX9_init, cX9_init, 2, none, d, mc, ms, Post)
def q_X9_init_129 (X : mh_X) : mh_PR := s_il 1 (s_push (.int (5)) (s_if2 (fun x y => y ≤ x) (s_vret X) (s_al 0 (s_gr 9 6 (s_il 1 (s_new X 5 4 [.null, .null, .int 0, .int 0] (s_dup (s_ci X yX5_init 0 (s_aast 5 5 (s_inc 1 (1) (mh_G X 129)))))))))))
theorem b_X9_init_129 {E : mh_E} {d mc ms : Nat} {Post : Option Value → mh_H → Prop} : mh_S (x_X9_init E d mc ms Post) 129 (q_X9_init_129 (x_X9_init E d mc ms Post)) := sn_iload_n dX9_init_129 rfl (sn_iconst dX9_init_130 (by decide) (sn_icmp_ge (tgt := 153) dX9_init_131 (by decide) (sn_vret rfl dX9_init_153) (sn_aload_n dX9_init_134 rfl (sn_getr clX9 (by decide) w_340 dX9_init_135 (sn_iload_n dX9_init_138 rfl (sn_new clX5 w_288 w_308 w_65 dfX5 dX9_init_139 (sn_dup dX9_init_142 (sn_ciN w_309 w_310 w_65 rfl nm_X5_init dX9_init_143 (sn_aastore clX5 (by decide) rfl dX9_init_146 (sn_iinc dX9_init_147 (by decide) (Nat.le_of_ble_eq_true rfl) (sn_goto (tgt := 129) dX9_init_150 (by decide) (mh_S.G))))))))))))
def q_X9_init_103 (X : mh_X) : mh_PR := s_il 1 (s_push (.int (4)) (s_if2 (fun x y => y ≤ x) (s_push (.int (0)) (s_is 1 (mh_G X 129))) (s_al 0 (s_gr 9 5 (s_il 1 (s_new X 4 3 [.null, .int 0, .int 0] (s_dup (s_ci X yX4_init 0 (s_aast 4 4 (s_inc 1 (1) (mh_G X 103)))))))))))
theorem b_X9_init_103 {E : mh_E} {d mc ms : Nat} {Post : Option Value → mh_H → Prop} : mh_S (x_X9_init E d mc ms Post) 103 (q_X9_init_103 (x_X9_init E d mc ms Post)) := sn_iload_n dX9_init_103 rfl (sn_iconst dX9_init_104 (by decide) (sn_icmp_ge (tgt := 127) dX9_init_105 (by decide) (sn_iconst dX9_init_127 (by decide) (sn_istore_n dX9_init_128 rfl (Nat.le_of_ble_eq_true rfl) mh_S.G)) (sn_aload_n dX9_init_108 rfl (sn_getr clX9 (by decide) w_339 dX9_init_109 (sn_iload_n dX9_init_112 rfl (sn_new clX4 w_286 w_290 w_64 dfX4 dX9_init_113 (sn_dup dX9_init_116 (sn_ciN w_291 w_292 w_64 rfl nm_X4_init dX9_init_117 (sn_aastore clX4 (by decide) rfl dX9_init_120 (sn_iinc dX9_init_121 (by decide) (Nat.le_of_ble_eq_true rfl) (sn_goto (tgt := 103) dX9_init_124 (by decide) (mh_S.G))))))))))))
def q_X9_init_0 (X : mh_X) : mh_PR := s_al 0 (s_oi X (s_al 0 (s_new X 0 10 [.null, .null, .null, .int 0, .int 0, .int 0, .int 0, .int 0, .int 0, .int 0] (s_dup (s_ci X yX0_init 0 (s_pr 9 0 (s_al 0 (s_new X 0 10 [.null, .null, .null, .int 0, .int 0, .int 0, .int 0, .int 0, .int 0, .int 0] (s_dup (s_ci X yX0_init 0 (s_pr 9 1 (s_al 0 (s_new X 0 10 [.null, .null, .null, .int 0, .int 0, .int 0, .int 0, .int 0, .int 0, .int 0] (s_dup (s_ci X yX0_init 0 (s_pr 9 2 (s_al 0 (s_new X 1 5 [.null, .null, .null, .null, .int 0] (s_dup (s_ci X yX1_init 0 (s_pr 9 3 (s_al 0 (s_new X 7 12 [.null, .null, .int 0, .int 0, .int 0, .int 0, .int 0, .int 0, .int 0, .int 0, .int 0, .int 0] (s_dup (s_ci X yX7_init 0 (s_pr 9 4 (s_al 0 (s_push (.int (4)) (s_newq X 4 (s_pr 9 5 (s_al 0 (s_push (.int (5)) (s_newq X 5 (s_pr 9 6 (s_al 0 (s_push (.int (60)) (s_newa X 0 (s_pr 9 7 (s_al 0 (s_push (.int (10)) (s_newa X 0 (s_pr 9 8 (s_al 0 (s_push (.int (0)) (s_pi 9 9 (s_al 0 (s_push (.int (0)) (s_pz 9 10 (s_push (.int (0)) (s_is 1 (mh_G X 103)))))))))))))))))))))))))))))))))))))))))))))))))))
theorem b_X9_init_0 {E : mh_E} {d mc ms : Nat} {Post : Option Value → mh_H → Prop} : mh_S (x_X9_init E d mc ms Post) 0 (q_X9_init_0 (x_X9_init E d mc ms Post)) := sn_aload_n dX9_init_0 rfl (sn_oi w_81 w_82 w_oi dX9_init_1 (sn_aload_n dX9_init_4 rfl (sn_new clX0 w_84 w_85 w_57 dfX0 dX9_init_5 (sn_dup dX9_init_8 (sn_ci w_86 w_87 w_57 rfl nm_X0_init dX9_init_9 (sn_putrF clX9 (by decide) w_334 rfl rfl rfl (Or.inl ⟨_, rfl⟩) dX9_init_12 (sn_aload_n dX9_init_15 rfl (sn_new clX0 w_84 w_85 w_57 dfX0 dX9_init_16 (sn_dup dX9_init_19 (sn_ci w_86 w_87 w_57 rfl nm_X0_init dX9_init_20 (sn_putrF clX9 (by decide) w_335 rfl rfl rfl (Or.inl ⟨_, rfl⟩) dX9_init_23 (sn_aload_n dX9_init_26 rfl (sn_new clX0 w_84 w_85 w_57 dfX0 dX9_init_27 (sn_dup dX9_init_30 (sn_ci w_86 w_87 w_57 rfl nm_X0_init dX9_init_31 (sn_putrF clX9 (by decide) w_336 rfl rfl rfl (Or.inl ⟨_, rfl⟩) dX9_init_34 (sn_aload_n dX9_init_37 rfl (sn_new clX1 w_218 w_219 w_62 dfX1 dX9_init_38 (sn_dup dX9_init_41 (sn_ciN w_220 w_221 w_62 rfl nm_X1_init dX9_init_42 (sn_putrF clX9 (by decide) w_337 rfl rfl rfl (Or.inl ⟨_, rfl⟩) dX9_init_45 (sn_aload_n dX9_init_48 rfl (sn_new clX7 w_241 w_242 w_63 dfX7 dX9_init_49 (sn_dup dX9_init_52 (sn_ciN w_243 w_244 w_63 rfl nm_X7_init dX9_init_53 (sn_putrF clX9 (by decide) w_338 rfl rfl rfl (Or.inl ⟨_, rfl⟩) dX9_init_56 (sn_aload_n dX9_init_59 rfl (sn_iconst dX9_init_60 (by decide) (sn_newq (by decide) rfl w_287 w_286 dX9_init_61 (sn_putrF clX9 (by decide) w_339 rfl rfl rfl (Or.inr ⟨_, rfl⟩) dX9_init_64 (sn_aload_n dX9_init_67 rfl (sn_iconst dX9_init_68 (by decide) (sn_newq (by decide) rfl w_289 w_288 dX9_init_69 (sn_putrF clX9 (by decide) w_340 rfl rfl rfl (Or.inr ⟨_, rfl⟩) dX9_init_72 (sn_aload_n dX9_init_75 rfl (sn_bipush dX9_init_76 (by decide) (sn_newint w_109 dX9_init_78 (sn_putrF clX9 (by decide) w_341 rfl rfl rfl (Or.inr ⟨_, rfl⟩) dX9_init_80 (sn_aload_n dX9_init_83 rfl (sn_bipush dX9_init_84 (by decide) (sn_newint w_109 dX9_init_86 (sn_putrF clX9 (by decide) w_342 rfl rfl rfl (Or.inr ⟨_, rfl⟩) dX9_init_88 (sn_aload_n dX9_init_91 rfl (sn_iconst dX9_init_92 (by decide) (sn_puti clX9 (by decide) w_343 rfl rfl dX9_init_93 (sn_aload_n dX9_init_96 rfl (sn_iconst dX9_init_97 (by decide) (sn_putz clX9 (by decide) w_344 rfl rfl dX9_init_98 (sn_iconst dX9_init_101 (by decide) (sn_istore_n dX9_init_102 rfl (Nat.le_of_ble_eq_true rfl) mh_S.G))))))))))))))))))))))))))))))))))))))))))))))))))
theorem m_X9_init {E : mh_E} {d mc ms : Nat} {args : List Value} {h : mh_H} {Post : Option Value → mh_H → Prop} (lv : List (Option Value)) (hl : lv_args 0 args = mh_al 0 lv) (hs : (lg_sl args).length ≤ 2) (hG : q_X9_init_0 (x_X9_init E d mc ms Post) lv [] h 0 0) : mh_M E d mc ms yX9_init args h Post := mh_M.of w_80 (by decide) (by decide) hl hs (b_X9_init_0 _ _ _ _ _ hG)
theorem dX9_stone_0 : decode cX9_stone 0 = .ok (.iload_n 1, 1) := by decide +kernel
theorem dX9_stone_1 : decode cX9_stone 1 = .ok (.invokestatic 65, 3) := by decide +kernel
theorem dX9_stone_4 : decode cX9_stone 4 = .ok (.ifCond .eq 33, 3) := by decide +kernel
theorem dX9_stone_7 : decode cX9_stone 7 = .ok (.iload_n 2, 1) := by decide +kernel
theorem dX9_stone_8 : decode cX9_stone 8 = .ok (.invokestatic 69, 3) := by decide +kernel
theorem dX9_stone_11 : decode cX9_stone 11 = .ok (.ifCond .eq 26, 3) := by decide +kernel
theorem dX9_stone_14 : decode cX9_stone 14 = .ok (.iload_n 3, 1) := by decide +kernel
theorem dX9_stone_15 : decode cX9_stone 15 = .ok (.invokestatic 72, 3) := by decide +kernel
theorem dX9_stone_18 : decode cX9_stone 18 = .ok (.ifCond .eq 19, 3) := by decide +kernel
theorem dX9_stone_21 : decode cX9_stone 21 = .ok (.iload 4, 2) := by decide +kernel
theorem dX9_stone_23 : decode cX9_stone 23 = .ok (.invokestatic 75, 3) := by decide +kernel
theorem dX9_stone_26 : decode cX9_stone 26 = .ok (.ifCond .eq 11, 3) := by decide +kernel
theorem dX9_stone_29 : decode cX9_stone 29 = .ok (.iload 5, 2) := by decide +kernel
theorem dX9_stone_31 : decode cX9_stone 31 = .ok (.invokestatic 78, 3) := by decide +kernel
theorem dX9_stone_34 : decode cX9_stone 34 = .ok (.ifCond .ne 6, 3) := by decide +kernel
theorem dX9_stone_37 : decode cX9_stone 37 = .ok (.ldc 81, 2) := by decide +kernel
theorem dX9_stone_39 : decode cX9_stone 39 = .ok (.ireturn, 1) := by decide +kernel
theorem dX9_stone_40 : decode cX9_stone 40 = .ok (.aload_n 0, 1) := by decide +kernel
theorem dX9_stone_41 : decode cX9_stone 41 = .ok (.getfield 12, 3) := by decide +kernel
theorem dX9_stone_44 : decode cX9_stone 44 = .ok (.iload_n 1, 1) := by decide +kernel
theorem dX9_stone_45 : decode cX9_stone 45 = .ok (.iload_n 2, 1) := by decide +kernel
theorem dX9_stone_46 : decode cX9_stone 46 = .ok (.iload_n 3, 1) := by decide +kernel
theorem dX9_stone_47 : decode cX9_stone 47 = .ok (.iload 4, 2) := by decide +kernel
theorem dX9_stone_49 : decode cX9_stone 49 = .ok (.iload 5, 2) := by decide +kernel
theorem dX9_stone_51 : decode cX9_stone 51 = .ok (.invokevirtual 82, 3) := by decide +kernel
theorem dX9_stone_54 : decode cX9_stone 54 = .ok (.ireturn, 1) := by decide +kernel
abbrev x_X9_stone (E : mh_E) (d mc ms : Nat) (Post : Option Value → mh_H → Prop) : mh_X := (E, yX9_stone, cX9_stone, 6, (some .int), d, mc, ms, Post)
def q_X9_stone_37 (X : mh_X) : mh_PR := s_push (.int (-1000000001)) (s_iret X)
theorem b_X9_stone_37 {E : mh_E} {d mc ms : Nat} {Post : Option Value → mh_H → Prop} : mh_S (x_X9_stone E d mc ms Post) 37 (q_X9_stone_37 (x_X9_stone E d mc ms Post)) := sn_ldc dX9_stone_37 w_387 (sn_iret rfl dX9_stone_39)
def q_X9_stone_0 (X : mh_X) : mh_PR := s_il 1 (s_cs X yX9_isKind 1 (s_if1 (fun x => x = 0) (q_X9_stone_37 X) (s_il 2 (s_cs X yX9_isOne 1 (s_if1 (fun x => x = 0) (q_X9_stone_37 X) (s_il 3 (s_cs X yX9_isSquare 1 (s_if1 (fun x => x = 0) (q_X9_stone_37 X) (s_il 4 (s_cs X yX9_isRank 1 (s_if1 (fun x => x = 0) (q_X9_stone_37 X) (s_il 5 (s_cs X yX9_isYear 1 (s_if1 (fun x => ¬ x = 0) (s_al 0 (s_gr 9 0 (s_il 1 (s_il 2 (s_il 3 (s_il 4 (s_il 5 (s_cv X yX0_putUp 0 5 (s_iret X))))))))) (q_X9_stone_37 X)))))))))))))))
theorem b_X9_stone_0 {E : mh_E} {d mc ms : Nat} {Post : Option Value → mh_H → Prop} : mh_S (x_X9_stone E d mc ms Post) 0 (q_X9_stone_0 (x_X9_stone E d mc ms Post)) := sn_iload_n dX9_stone_0 rfl (sn_cs w_372 w_373 w_56 nm_X9_isKind dX9_stone_1 (sn_if_eq (tgt := 37) dX9_stone_4 (by decide) (b_X9_stone_37) (sn_iload_n dX9_stone_7 rfl (sn_cs w_375 w_376 w_56 nm_X9_isOne dX9_stone_8 (sn_if_eq (tgt := 37) dX9_stone_11 (by decide) (b_X9_stone_37) (sn_iload_n dX9_stone_14 rfl (sn_cs w_378 w_379 w_56 nm_X9_isSquare dX9_stone_15 (sn_if_eq (tgt := 37) dX9_stone_18 (by decide) (b_X9_stone_37) (sn_iload dX9_stone_21 (sn_cs w_381 w_382 w_56 nm_X9_isRank dX9_stone_23 (sn_if_eq (tgt := 37) dX9_stone_26 (by decide) (b_X9_stone_37) (sn_iload dX9_stone_29 (sn_cs w_384 w_385 w_56 nm_X9_isYear dX9_stone_31 (sn_if_ne (tgt := 40) dX9_stone_34 (by decide) (sn_aload_n dX9_stone_40 rfl (sn_getr clX9 (by decide) w_334 dX9_stone_41 (sn_iload_n dX9_stone_44 rfl (sn_iload_n dX9_stone_45 rfl (sn_iload_n dX9_stone_46 rfl (sn_iload dX9_stone_47 (sn_iload dX9_stone_49 (sn_cv w_388 w_389 w_390 w_57 rfl nm_X0_putUp dX9_stone_51 (sn_iret rfl dX9_stone_54))))))))) (b_X9_stone_37)))))))))))))))
theorem m_X9_stone {E : mh_E} {d mc ms : Nat} {args : List Value} {h : mh_H} {Post : Option Value → mh_H → Prop} (lv : List (Option Value)) (hl : lv_args 0 args = mh_al 0 lv) (hs : (lg_sl args).length ≤ 6) (hG : q_X9_stone_0 (x_X9_stone E d mc ms Post) lv [] h 0 0) : mh_M E d mc ms yX9_stone args h Post := mh_M.of w_371 (by decide) (by decide) hl hs (b_X9_stone_0 _ _ _ _ _ hG)
theorem dX9_told_0 : decode cX9_told 0 = .ok (.aload_n 0, 1) := by decide +kernel
theorem dX9_told_1 : decode cX9_told 1 = .ok (.iload_n 1, 1) := by decide +kernel
theorem dX9_told_2 : decode cX9_told 2 = .ok (.invokevirtual 86, 3) := by decide +kernel
theorem dX9_told_5 : decode cX9_told 5 = .ok (.ifCond .ne 6, 3) := by decide +kernel
theorem dX9_told_8 : decode cX9_told 8 = .ok (.ldc 81, 2) := by decide +kernel
theorem dX9_told_10 : decode cX9_told 10 = .ok (.ireturn, 1) := by decide +kernel
theorem dX9_told_11 : decode cX9_told 11 = .ok (.aload_n 0, 1) := by decide +kernel
theorem dX9_told_12 : decode cX9_told 12 = .ok (.getfield 12, 3) := by decide +kernel
theorem dX9_told_15 : decode cX9_told 15 = .ok (.getfield 89, 3) := by decide +kernel
theorem dX9_told_18 : decode cX9_told 18 = .ok (.iload_n 1, 1) := by decide +kernel
theorem dX9_told_19 : decode cX9_told 19 = .ok (.aaload, 1) := by decide +kernel
theorem dX9_told_20 : decode cX9_told 20 = .ok (.astore_n 3, 1) := by decide +kernel
theorem dX9_told_21 : decode cX9_told 21 = .ok (.iload_n 2, 1) := by decide +kernel
theorem dX9_told_22 : decode cX9_told 22 = .ok (.tableswitch 111 0 8 #[50, 55, 60, 65, 70, 75, 80, 97, 106], 50) := by decide +kernel
theorem dX9_told_72 : decode cX9_told 72 = .ok (.aload_n 3, 1) := by decide +kernel
theorem dX9_told_73 : decode cX9_told 73 = .ok (.getfield 93, 3) := by decide +kernel
theorem dX9_told_76 : decode cX9_told 76 = .ok (.ireturn, 1) := by decide +kernel
theorem dX9_told_77 : decode cX9_told 77 = .ok (.aload_n 3, 1) := by decide +kernel
theorem dX9_told_78 : decode cX9_told 78 = .ok (.getfield 98, 3) := by decide +kernel
theorem dX9_told_81 : decode cX9_told 81 = .ok (.ireturn, 1) := by decide +kernel
theorem dX9_told_82 : decode cX9_told 82 = .ok (.aload_n 3, 1) := by decide +kernel
theorem dX9_told_83 : decode cX9_told 83 = .ok (.getfield 101, 3) := by decide +kernel
theorem dX9_told_86 : decode cX9_told 86 = .ok (.ireturn, 1) := by decide +kernel
theorem dX9_told_87 : decode cX9_told 87 = .ok (.aload_n 3, 1) := by decide +kernel
theorem dX9_told_88 : decode cX9_told 88 = .ok (.getfield 104, 3) := by decide +kernel
theorem dX9_told_91 : decode cX9_told 91 = .ok (.ireturn, 1) := by decide +kernel
theorem dX9_told_92 : decode cX9_told 92 = .ok (.aload_n 3, 1) := by decide +kernel
theorem dX9_told_93 : decode cX9_told 93 = .ok (.getfield 107, 3) := by decide +kernel
theorem dX9_told_96 : decode cX9_told 96 = .ok (.ireturn, 1) := by decide +kernel
theorem dX9_told_97 : decode cX9_told 97 = .ok (.aload_n 3, 1) := by decide +kernel
theorem dX9_told_98 : decode cX9_told 98 = .ok (.getfield 110, 3) := by decide +kernel
theorem dX9_told_101 : decode cX9_told 101 = .ok (.ireturn, 1) := by decide +kernel
theorem dX9_told_102 : decode cX9_told 102 = .ok (.aload_n 0, 1) := by decide +kernel
theorem dX9_told_103 : decode cX9_told 103 = .ok (.getfield 12, 3) := by decide +kernel
theorem dX9_told_106 : decode cX9_told 106 = .ok (.aload_n 3, 1) := by decide +kernel
theorem dX9_told_107 : decode cX9_told 107 = .ok (.invokevirtual 113, 3) := by decide +kernel
theorem dX9_told_110 : decode cX9_told 110 = .ok (.ifCond .eq 7, 3) := by decide +kernel
theorem dX9_told_113 : decode cX9_told 113 = .ok (.iconst 1, 1) := by decide +kernel
theorem dX9_told_114 : decode cX9_told 114 = .ok (.goto 4, 3) := by decide +kernel
theorem dX9_told_117 : decode cX9_told 117 = .ok (.iconst 0, 1) := by decide +kernel
theorem dX9_told_118 : decode cX9_told 118 = .ok (.ireturn, 1) := by decide +kernel
theorem dX9_told_119 : decode cX9_told 119 = .ok (.aload_n 0, 1) := by decide +kernel
theorem dX9_told_120 : decode cX9_told 120 = .ok (.getfield 12, 3) := by decide +kernel
theorem dX9_told_123 : decode cX9_told 123 = .ok (.aload_n 3, 1) := by decide +kernel
theorem dX9_told_124 : decode cX9_told 124 = .ok (.invokevirtual 117, 3) := by decide +kernel
theorem dX9_told_127 : decode cX9_told 127 = .ok (.ireturn, 1) := by decide +kernel
theorem dX9_told_128 : decode cX9_told 128 = .ok (.aload_n 3, 1) := by decide +kernel
theorem dX9_told_129 : decode cX9_told 129 = .ok (.invokevirtual 121, 3) := by decide +kernel
theorem dX9_told_132 : decode cX9_told 132 = .ok (.ireturn, 1) := by decide +kernel
theorem dX9_told_133 : decode cX9_told 133 = .ok (.ldc 81, 2) := by decide +kernel
theorem dX9_told_135 : decode cX9_told 135 = .ok (.ireturn, 1) := by decide +kernel
abbrev x_X9_told (E : mh_E) (d mc ms : Nat) (Post : Option Value → mh_H → Prop) : mh_X := (E, yX9_told, cX9_told, 4, (some .int), d, mc, ms, Post)
def q_X9_told_118 (X : mh_X) : mh_PR := s_iret X
theorem b_X9_told_118 {E : mh_E} {d mc ms : Nat} {Post : Option Value → mh_H → Prop} : mh_S (x_X9_told E d mc ms Post) 118 (q_X9_told_118 (x_X9_told E d mc ms Post)) := sn_iret rfl dX9_told_118
def q_X9_told_0 (X : mh_X) : mh_PR := s_al 0 (s_il 1 (s_cv X yX9_isStone 9 1 (s_if1 (fun x => ¬ x = 0) (s_al 0 (s_gr 9 0 (s_gr 0 1 (s_il 1 (s_aald 6 (s_as 3 (s_il 2 (s_sw [((0 : Int32), s_al 3 (s_gi 6 0 (s_iret X))), ((1 : Int32), s_al 3 (s_gi 6 1 (s_iret X))), ((2 : Int32), s_al 3 (s_gi 6 2 (s_iret X))), ((3 : Int32), s_al 3 (s_gi 6 3 (s_iret X))), ((4 : Int32), s_al 3 (s_gi 6 4 (s_iret X))), ((5 : Int32), s_al 3 (s_gi 6 5 (s_iret X))), ((6 : Int32), s_al 0 (s_gr 9 0 (s_al 3 (s_cv X yX0_holds 0 1 (s_if1 (fun x => x = 0) (s_push (.int (0)) (q_X9_told_118 X)) (s_push (.int (1)) (q_X9_told_118 X))))))), ((7 : Int32), s_al 0 (s_gr 9 0 (s_al 3 (s_cv X yX0_keeps 0 1 (s_iret X))))), ((8 : Int32), s_al 3 (s_cv X yX6_worth 6 0 (s_iret X)))] (s_push (.int (-1000000001)) (s_iret X)))))))))) (s_push (.int (-1000000001)) (s_iret X)))))
theorem b_X9_told_0 {E : mh_E} {d mc ms : Nat} {Post : Option Value → mh_H → Prop} : mh_S (x_X9_told E d mc ms Post) 0 (q_X9_told_0 (x_X9_told E d mc ms Post)) := sn_aload_n dX9_told_0 rfl (sn_iload_n dX9_told_1 rfl (sn_cv w_398 w_400 w_0 w_56 rfl nm_X9_isStone dX9_told_2 (sn_if_ne (tgt := 11) dX9_told_5 (by decide) (sn_aload_n dX9_told_11 rfl (sn_getr clX9 (by decide) w_334 dX9_told_12 (sn_getr clX0 (by decide) w_178 dX9_told_15 (sn_iload_n dX9_told_18 rfl (sn_aaload (by decide) rfl dX9_told_19 (sn_astore_n dX9_told_20 rfl (Nat.le_of_ble_eq_true rfl) (sn_iload_n dX9_told_21 rfl (sn_table (tgt := 133) (ts := [(0, 50, 72), (1, 55, 77), (2, 60, 82), (3, 65, 87), (4, 70, 92), (5, 75, 97), (6, 80, 102), (7, 97, 119), (8, 106, 128)]) dX9_told_22 (by decide +kernel) (by decide +kernel) (sw_cons (sn_aload_n dX9_told_72 rfl (sn_geti clX6 (by decide) w_143 dX9_told_73 (sn_iret rfl dX9_told_76))) (sw_cons (sn_aload_n dX9_told_77 rfl (sn_geti clX6 (by decide) w_146 dX9_told_78 (sn_iret rfl dX9_told_81))) (sw_cons (sn_aload_n dX9_told_82 rfl (sn_geti clX6 (by decide) w_149 dX9_told_83 (sn_iret rfl dX9_told_86))) (sw_cons (sn_aload_n dX9_told_87 rfl (sn_geti clX6 (by decide) w_153 dX9_told_88 (sn_iret rfl dX9_told_91))) (sw_cons (sn_aload_n dX9_told_92 rfl (sn_geti clX6 (by decide) w_157 dX9_told_93 (sn_iret rfl dX9_told_96))) (sw_cons (sn_aload_n dX9_told_97 rfl (sn_geti clX6 (by decide) w_160 dX9_told_98 (sn_iret rfl dX9_told_101))) (sw_cons (sn_aload_n dX9_told_102 rfl (sn_getr clX9 (by decide) w_334 dX9_told_103 (sn_aload_n dX9_told_106 rfl (sn_cv w_402 w_403 w_404 w_57 rfl nm_X0_holds dX9_told_107 (sn_if_eq (tgt := 117) dX9_told_110 (by decide) (sn_iconst dX9_told_117 (by decide) b_X9_told_118) (sn_iconst dX9_told_113 (by decide) (sn_goto (tgt := 118) dX9_told_114 (by decide) (b_X9_told_118)))))))) (sw_cons (sn_aload_n dX9_told_119 rfl (sn_getr clX9 (by decide) w_334 dX9_told_120 (sn_aload_n dX9_told_123 rfl (sn_cv w_420 w_421 w_422 w_57 rfl nm_X0_keeps dX9_told_124 (sn_iret rfl dX9_told_127))))) (sw_cons (sn_aload_n dX9_told_128 rfl (sn_cv w_462 w_463 w_464 w_61 rfl nm_X6_worth dX9_told_129 (sn_iret rfl dX9_told_132))) sw_nil))))))))) (by decide) (sn_ldc dX9_told_133 w_387 (sn_iret rfl dX9_told_135)))))))))) (sn_ldc dX9_told_8 w_387 (sn_iret rfl dX9_told_10)))))
theorem m_X9_told {E : mh_E} {d mc ms : Nat} {args : List Value} {h : mh_H} {Post : Option Value → mh_H → Prop} (lv : List (Option Value)) (hl : lv_args 0 args = mh_al 0 lv) (hs : (lg_sl args).length ≤ 4) (hG : q_X9_told_0 (x_X9_told E d mc ms Post) lv [] h 0 0) : mh_M E d mc ms yX9_told args h Post := mh_M.of w_397 (by decide) (by decide) hl hs (b_X9_told_0 _ _ _ _ _ hG)
theorem dX9_as_0 : decode cX9_as 0 = .ok (.aload_n 0, 1) := by decide +kernel
theorem dX9_as_1 : decode cX9_as 1 = .ok (.iload_n 1, 1) := by decide +kernel
theorem dX9_as_2 : decode cX9_as 2 = .ok (.invokevirtual 86, 3) := by decide +kernel
theorem dX9_as_5 : decode cX9_as 5 = .ok (.ifCond .eq 10, 3) := by decide +kernel
theorem dX9_as_8 : decode cX9_as 8 = .ok (.iload_n 2, 1) := by decide +kernel
theorem dX9_as_9 : decode cX9_as 9 = .ok (.invokestatic 65, 3) := by decide +kernel
theorem dX9_as_12 : decode cX9_as 12 = .ok (.ifCond .ne 6, 3) := by decide +kernel
theorem dX9_as_15 : decode cX9_as 15 = .ok (.ldc 81, 2) := by decide +kernel
theorem dX9_as_17 : decode cX9_as 17 = .ok (.ireturn, 1) := by decide +kernel
theorem dX9_as_18 : decode cX9_as 18 = .ok (.aload_n 0, 1) := by decide +kernel
theorem dX9_as_19 : decode cX9_as 19 = .ok (.getfield 12, 3) := by decide +kernel
theorem dX9_as_22 : decode cX9_as 22 = .ok (.getfield 89, 3) := by decide +kernel
theorem dX9_as_25 : decode cX9_as 25 = .ok (.iload_n 1, 1) := by decide +kernel
theorem dX9_as_26 : decode cX9_as 26 = .ok (.aaload, 1) := by decide +kernel
theorem dX9_as_27 : decode cX9_as 27 = .ok (.astore_n 3, 1) := by decide +kernel
theorem dX9_as_28 : decode cX9_as 28 = .ok (.aload_n 3, 1) := by decide +kernel
theorem dX9_as_29 : decode cX9_as 29 = .ok (.iload_n 2, 1) := by decide +kernel
theorem dX9_as_30 : decode cX9_as 30 = .ok (.invokevirtual 125, 3) := by decide +kernel
theorem dX9_as_33 : decode cX9_as 33 = .ok (.ifCond .eq 10, 3) := by decide +kernel
theorem dX9_as_36 : decode cX9_as 36 = .ok (.aload_n 3, 1) := by decide +kernel
theorem dX9_as_37 : decode cX9_as 37 = .ok (.getfield 104, 3) := by decide +kernel
theorem dX9_as_40 : decode cX9_as 40 = .ok (.goto 5, 3) := by decide +kernel
theorem dX9_as_43 : decode cX9_as 43 = .ok (.ldc 128, 2) := by decide +kernel
theorem dX9_as_45 : decode cX9_as 45 = .ok (.ireturn, 1) := by decide +kernel
abbrev x_X9_as (E : mh_E) (d mc ms : Nat) (Post : Option Value → mh_H → Prop) : mh_X := (E, yX9_as, cX9_as, 4, (some .int), d, mc, ms, Post)
def q_X9_as_45 (X : mh_X) : mh_PR := s_iret X
theorem b_X9_as_45 {E : mh_E} {d mc ms : Nat} {Post : Option Value → mh_H → Prop} : mh_S (x_X9_as E d mc ms Post) 45 (q_X9_as_45 (x_X9_as E d mc ms Post)) := sn_iret rfl dX9_as_45
def q_X9_as_15 (X : mh_X) : mh_PR := s_push (.int (-1000000001)) (s_iret X)
theorem b_X9_as_15 {E : mh_E} {d mc ms : Nat} {Post : Option Value → mh_H → Prop} : mh_S (x_X9_as E d mc ms Post) 15 (q_X9_as_15 (x_X9_as E d mc ms Post)) := sn_ldc dX9_as_15 w_387 (sn_iret rfl dX9_as_17)
def q_X9_as_0 (X : mh_X) : mh_PR := s_al 0 (s_il 1 (s_cv X yX9_isStone 9 1 (s_if1 (fun x => x = 0) (q_X9_as_15 X) (s_il 2 (s_cs X yX9_isKind 1 (s_if1 (fun x => ¬ x = 0) (s_al 0 (s_gr 9 0 (s_gr 0 1 (s_il 1 (s_aald 6 (s_as 3 (s_al 3 (s_il 2 (s_cv X yX6_isOf 6 1 (s_if1 (fun x => x = 0) (s_push (.int (-1000000012)) (q_X9_as_45 X)) (s_al 3 (s_gi 6 3 (q_X9_as_45 X))))))))))))) (q_X9_as_15 X)))))))
theorem b_X9_as_0 {E : mh_E} {d mc ms : Nat} {Post : Option Value → mh_H → Prop} : mh_S (x_X9_as E d mc ms Post) 0 (q_X9_as_0 (x_X9_as E d mc ms Post)) := sn_aload_n dX9_as_0 rfl (sn_iload_n dX9_as_1 rfl (sn_cv w_398 w_400 w_0 w_56 rfl nm_X9_isStone dX9_as_2 (sn_if_eq (tgt := 15) dX9_as_5 (by decide) (b_X9_as_15) (sn_iload_n dX9_as_8 rfl (sn_cs w_372 w_373 w_56 nm_X9_isKind dX9_as_9 (sn_if_ne (tgt := 18) dX9_as_12 (by decide) (sn_aload_n dX9_as_18 rfl (sn_getr clX9 (by decide) w_334 dX9_as_19 (sn_getr clX0 (by decide) w_178 dX9_as_22 (sn_iload_n dX9_as_25 rfl (sn_aaload (by decide) rfl dX9_as_26 (sn_astore_n dX9_as_27 rfl (Nat.le_of_ble_eq_true rfl) (sn_aload_n dX9_as_28 rfl (sn_iload_n dX9_as_29 rfl (sn_cv w_470 w_471 w_472 w_61 rfl nm_X6_isOf dX9_as_30 (sn_if_eq (tgt := 43) dX9_as_33 (by decide) (sn_ldc dX9_as_43 w_477 b_X9_as_45) (sn_aload_n dX9_as_36 rfl (sn_geti clX6 (by decide) w_153 dX9_as_37 (sn_goto (tgt := 45) dX9_as_40 (by decide) (b_X9_as_45)))))))))))))) (b_X9_as_15)))))))
theorem m_X9_as {E : mh_E} {d mc ms : Nat} {args : List Value} {h : mh_H} {Post : Option Value → mh_H → Prop} (lv : List (Option Value)) (hl : lv_args 0 args = mh_al 0 lv) (hs : (lg_sl args).length ≤ 4) (hG : q_X9_as_0 (x_X9_as E d mc ms Post) lv [] h 0 0) : mh_M E d mc ms yX9_as args h Post := mh_M.of w_469 (by decide) (by decide) hl hs (b_X9_as_0 _ _ _ _ _ hG)
theorem dX9_turns_0 : decode cX9_turns 0 = .ok (.aload_n 0, 1) := by decide +kernel
theorem dX9_turns_1 : decode cX9_turns 1 = .ok (.iload_n 1, 1) := by decide +kernel
theorem dX9_turns_2 : decode cX9_turns 2 = .ok (.invokevirtual 86, 3) := by decide +kernel
theorem dX9_turns_5 : decode cX9_turns 5 = .ok (.ifCond .eq 10, 3) := by decide +kernel
theorem dX9_turns_8 : decode cX9_turns 8 = .ok (.iload_n 2, 1) := by decide +kernel
theorem dX9_turns_9 : decode cX9_turns 9 = .ok (.invokestatic 65, 3) := by decide +kernel
theorem dX9_turns_12 : decode cX9_turns 12 = .ok (.ifCond .ne 6, 3) := by decide +kernel
theorem dX9_turns_15 : decode cX9_turns 15 = .ok (.ldc 81, 2) := by decide +kernel
theorem dX9_turns_17 : decode cX9_turns 17 = .ok (.ireturn, 1) := by decide +kernel
theorem dX9_turns_18 : decode cX9_turns 18 = .ok (.aload_n 0, 1) := by decide +kernel
theorem dX9_turns_19 : decode cX9_turns 19 = .ok (.getfield 12, 3) := by decide +kernel
theorem dX9_turns_22 : decode cX9_turns 22 = .ok (.getfield 89, 3) := by decide +kernel
theorem dX9_turns_25 : decode cX9_turns 25 = .ok (.iload_n 1, 1) := by decide +kernel
theorem dX9_turns_26 : decode cX9_turns 26 = .ok (.aaload, 1) := by decide +kernel
theorem dX9_turns_27 : decode cX9_turns 27 = .ok (.astore_n 3, 1) := by decide +kernel
theorem dX9_turns_28 : decode cX9_turns 28 = .ok (.aload_n 3, 1) := by decide +kernel
theorem dX9_turns_29 : decode cX9_turns 29 = .ok (.getfield 93, 3) := by decide +kernel
theorem dX9_turns_32 : decode cX9_turns 32 = .ok (.istore 4, 2) := by decide +kernel
theorem dX9_turns_34 : decode cX9_turns 34 = .ok (.aload_n 3, 1) := by decide +kernel
theorem dX9_turns_35 : decode cX9_turns 35 = .ok (.iload_n 2, 1) := by decide +kernel
theorem dX9_turns_36 : decode cX9_turns 36 = .ok (.putfield 93, 3) := by decide +kernel
theorem dX9_turns_39 : decode cX9_turns 39 = .ok (.iload 4, 2) := by decide +kernel
theorem dX9_turns_41 : decode cX9_turns 41 = .ok (.ireturn, 1) := by decide +kernel
abbrev x_X9_turns (E : mh_E) (d mc ms : Nat) (Post : Option Value → mh_H → Prop) : mh_X := (E, yX9_turns, cX9_turns, 5, (some .int), d, mc, ms, Post)
def q_X9_turns_15 (X : mh_X) : mh_PR := s_push (.int (-1000000001)) (s_iret X)
theorem b_X9_turns_15 {E : mh_E} {d mc ms : Nat} {Post : Option Value → mh_H → Prop} : mh_S (x_X9_turns E d mc ms Post) 15 (q_X9_turns_15 (x_X9_turns E d mc ms Post)) := sn_ldc dX9_turns_15 w_387 (sn_iret rfl dX9_turns_17)
def q_X9_turns_0 (X : mh_X) : mh_PR := s_al 0 (s_il 1 (s_cv X yX9_isStone 9 1 (s_if1 (fun x => x = 0) (q_X9_turns_15 X) (s_il 2 (s_cs X yX9_isKind 1 (s_if1 (fun x => ¬ x = 0) (s_al 0 (s_gr 9 0 (s_gr 0 1 (s_il 1 (s_aald 6 (s_as 3 (s_al 3 (s_gi 6 0 (s_is 4 (s_al 3 (s_il 2 (s_pi 6 0 (s_il 4 (s_iret X)))))))))))))) (q_X9_turns_15 X)))))))
theorem b_X9_turns_0 {E : mh_E} {d mc ms : Nat} {Post : Option Value → mh_H → Prop} : mh_S (x_X9_turns E d mc ms Post) 0 (q_X9_turns_0 (x_X9_turns E d mc ms Post)) := sn_aload_n dX9_turns_0 rfl (sn_iload_n dX9_turns_1 rfl (sn_cv w_398 w_400 w_0 w_56 rfl nm_X9_isStone dX9_turns_2 (sn_if_eq (tgt := 15) dX9_turns_5 (by decide) (b_X9_turns_15) (sn_iload_n dX9_turns_8 rfl (sn_cs w_372 w_373 w_56 nm_X9_isKind dX9_turns_9 (sn_if_ne (tgt := 18) dX9_turns_12 (by decide) (sn_aload_n dX9_turns_18 rfl (sn_getr clX9 (by decide) w_334 dX9_turns_19 (sn_getr clX0 (by decide) w_178 dX9_turns_22 (sn_iload_n dX9_turns_25 rfl (sn_aaload (by decide) rfl dX9_turns_26 (sn_astore_n dX9_turns_27 rfl (Nat.le_of_ble_eq_true rfl) (sn_aload_n dX9_turns_28 rfl (sn_geti clX6 (by decide) w_143 dX9_turns_29 (sn_istore dX9_turns_32 (Nat.le_of_ble_eq_true rfl) (sn_aload_n dX9_turns_34 rfl (sn_iload_n dX9_turns_35 rfl (sn_puti clX6 (by decide) w_143 rfl rfl dX9_turns_36 (sn_iload dX9_turns_39 (sn_iret rfl dX9_turns_41)))))))))))))) (b_X9_turns_15)))))))
theorem m_X9_turns {E : mh_E} {d mc ms : Nat} {args : List Value} {h : mh_H} {Post : Option Value → mh_H → Prop} (lv : List (Option Value)) (hl : lv_args 0 args = mh_al 0 lv) (hs : (lg_sl args).length ≤ 5) (hG : q_X9_turns_0 (x_X9_turns E d mc ms Post) lv [] h 0 0) : mh_M E d mc ms yX9_turns args h Post := mh_M.of w_481 (by decide) (by decide) hl hs (b_X9_turns_0 _ _ _ _ _ hG)
theorem dX9_set_0 : decode cX9_set 0 = .ok (.aload_n 0, 1) := by decide +kernel
theorem dX9_set_1 : decode cX9_set 1 = .ok (.iload_n 1, 1) := by decide +kernel
theorem dX9_set_2 : decode cX9_set 2 = .ok (.invokevirtual 86, 3) := by decide +kernel
theorem dX9_set_5 : decode cX9_set 5 = .ok (.ifCond .ne 6, 3) := by decide +kernel
theorem dX9_set_8 : decode cX9_set 8 = .ok (.ldc 81, 2) := by decide +kernel
theorem dX9_set_10 : decode cX9_set 10 = .ok (.ireturn, 1) := by decide +kernel
theorem dX9_set_11 : decode cX9_set 11 = .ok (.aload_n 0, 1) := by decide +kernel
theorem dX9_set_12 : decode cX9_set 12 = .ok (.getfield 12, 3) := by decide +kernel
theorem dX9_set_15 : decode cX9_set 15 = .ok (.getfield 89, 3) := by decide +kernel
theorem dX9_set_18 : decode cX9_set 18 = .ok (.iload_n 1, 1) := by decide +kernel
theorem dX9_set_19 : decode cX9_set 19 = .ok (.aaload, 1) := by decide +kernel
theorem dX9_set_20 : decode cX9_set 20 = .ok (.astore 4, 2) := by decide +kernel
theorem dX9_set_22 : decode cX9_set 22 = .ok (.iload_n 2, 1) := by decide +kernel
theorem dX9_set_23 : decode cX9_set 23 = .ok (.tableswitch 105 1 4 #[29, 48, 67, 86], 29) := by decide +kernel
theorem dX9_set_52 : decode cX9_set 52 = .ok (.iload_n 3, 1) := by decide +kernel
theorem dX9_set_53 : decode cX9_set 53 = .ok (.invokestatic 69, 3) := by decide +kernel
theorem dX9_set_56 : decode cX9_set 56 = .ok (.ifCond .eq 12, 3) := by decide +kernel
theorem dX9_set_59 : decode cX9_set 59 = .ok (.aload 4, 2) := by decide +kernel
theorem dX9_set_61 : decode cX9_set 61 = .ok (.iload_n 3, 1) := by decide +kernel
theorem dX9_set_62 : decode cX9_set 62 = .ok (.invokevirtual 129, 3) := by decide +kernel
theorem dX9_set_65 : decode cX9_set 65 = .ok (.goto 5, 3) := by decide +kernel
theorem dX9_set_68 : decode cX9_set 68 = .ok (.ldc 81, 2) := by decide +kernel
theorem dX9_set_70 : decode cX9_set 70 = .ok (.ireturn, 1) := by decide +kernel
theorem dX9_set_71 : decode cX9_set 71 = .ok (.iload_n 3, 1) := by decide +kernel
theorem dX9_set_72 : decode cX9_set 72 = .ok (.invokestatic 72, 3) := by decide +kernel
theorem dX9_set_75 : decode cX9_set 75 = .ok (.ifCond .eq 12, 3) := by decide +kernel
theorem dX9_set_78 : decode cX9_set 78 = .ok (.aload 4, 2) := by decide +kernel
theorem dX9_set_80 : decode cX9_set 80 = .ok (.iload_n 3, 1) := by decide +kernel
theorem dX9_set_81 : decode cX9_set 81 = .ok (.invokevirtual 133, 3) := by decide +kernel
theorem dX9_set_84 : decode cX9_set 84 = .ok (.goto 5, 3) := by decide +kernel
theorem dX9_set_87 : decode cX9_set 87 = .ok (.ldc 81, 2) := by decide +kernel
theorem dX9_set_89 : decode cX9_set 89 = .ok (.ireturn, 1) := by decide +kernel
theorem dX9_set_90 : decode cX9_set 90 = .ok (.iload_n 3, 1) := by decide +kernel
theorem dX9_set_91 : decode cX9_set 91 = .ok (.invokestatic 75, 3) := by decide +kernel
theorem dX9_set_94 : decode cX9_set 94 = .ok (.ifCond .eq 12, 3) := by decide +kernel
theorem dX9_set_97 : decode cX9_set 97 = .ok (.aload 4, 2) := by decide +kernel
theorem dX9_set_99 : decode cX9_set 99 = .ok (.iload_n 3, 1) := by decide +kernel
theorem dX9_set_100 : decode cX9_set 100 = .ok (.invokevirtual 136, 3) := by decide +kernel
theorem dX9_set_103 : decode cX9_set 103 = .ok (.goto 5, 3) := by decide +kernel
theorem dX9_set_106 : decode cX9_set 106 = .ok (.ldc 81, 2) := by decide +kernel
theorem dX9_set_108 : decode cX9_set 108 = .ok (.ireturn, 1) := by decide +kernel
theorem dX9_set_109 : decode cX9_set 109 = .ok (.iload_n 3, 1) := by decide +kernel
theorem dX9_set_110 : decode cX9_set 110 = .ok (.invokestatic 78, 3) := by decide +kernel
theorem dX9_set_113 : decode cX9_set 113 = .ok (.ifCond .eq 12, 3) := by decide +kernel
theorem dX9_set_116 : decode cX9_set 116 = .ok (.aload 4, 2) := by decide +kernel
theorem dX9_set_118 : decode cX9_set 118 = .ok (.iload_n 3, 1) := by decide +kernel
theorem dX9_set_119 : decode cX9_set 119 = .ok (.invokevirtual 139, 3) := by decide +kernel
theorem dX9_set_122 : decode cX9_set 122 = .ok (.goto 5, 3) := by decide +kernel
theorem dX9_set_125 : decode cX9_set 125 = .ok (.ldc 81, 2) := by decide +kernel
theorem dX9_set_127 : decode cX9_set 127 = .ok (.ireturn, 1) := by decide +kernel
theorem dX9_set_128 : decode cX9_set 128 = .ok (.ldc 81, 2) := by decide +kernel
theorem dX9_set_130 : decode cX9_set 130 = .ok (.ireturn, 1) := by decide +kernel
abbrev x_X9_set (E : mh_E) (d mc ms : Nat) (Post : Option Value → mh_H → Prop) : mh_X := (E, yX9_set, cX9_set, 5, (some .int), d, mc, ms, Post)
def q_X9_set_127 (X : mh_X) : mh_PR := s_iret X
theorem b_X9_set_127 {E : mh_E} {d mc ms : Nat} {Post : Option Value → mh_H → Prop} : mh_S (x_X9_set E d mc ms Post) 127 (q_X9_set_127 (x_X9_set E d mc ms Post)) := sn_iret rfl dX9_set_127
def q_X9_set_108 (X : mh_X) : mh_PR := s_iret X
theorem b_X9_set_108 {E : mh_E} {d mc ms : Nat} {Post : Option Value → mh_H → Prop} : mh_S (x_X9_set E d mc ms Post) 108 (q_X9_set_108 (x_X9_set E d mc ms Post)) := sn_iret rfl dX9_set_108
def q_X9_set_89 (X : mh_X) : mh_PR := s_iret X
theorem b_X9_set_89 {E : mh_E} {d mc ms : Nat} {Post : Option Value → mh_H → Prop} : mh_S (x_X9_set E d mc ms Post) 89 (q_X9_set_89 (x_X9_set E d mc ms Post)) := sn_iret rfl dX9_set_89
def q_X9_set_70 (X : mh_X) : mh_PR := s_iret X
theorem b_X9_set_70 {E : mh_E} {d mc ms : Nat} {Post : Option Value → mh_H → Prop} : mh_S (x_X9_set E d mc ms Post) 70 (q_X9_set_70 (x_X9_set E d mc ms Post)) := sn_iret rfl dX9_set_70
def q_X9_set_0 (X : mh_X) : mh_PR := s_al 0 (s_il 1 (s_cv X yX9_isStone 9 1 (s_if1 (fun x => ¬ x = 0) (s_al 0 (s_gr 9 0 (s_gr 0 1 (s_il 1 (s_aald 6 (s_as 4 (s_il 2 (s_sw [((1 : Int32), s_il 3 (s_cs X yX9_isOne 1 (s_if1 (fun x => x = 0) (s_push (.int (-1000000001)) (q_X9_set_70 X)) (s_al 4 (s_il 3 (s_cv X yX6_changeWho 6 1 (q_X9_set_70 X))))))), ((2 : Int32), s_il 3 (s_cs X yX9_isSquare 1 (s_if1 (fun x => x = 0) (s_push (.int (-1000000001)) (q_X9_set_89 X)) (s_al 4 (s_il 3 (s_cv X yX6_changeWhere 6 1 (q_X9_set_89 X))))))), ((3 : Int32), s_il 3 (s_cs X yX9_isRank 1 (s_if1 (fun x => x = 0) (s_push (.int (-1000000001)) (q_X9_set_108 X)) (s_al 4 (s_il 3 (s_cv X yX6_changeWhat 6 1 (q_X9_set_108 X))))))), ((4 : Int32), s_il 3 (s_cs X yX9_isYear 1 (s_if1 (fun x => x = 0) (s_push (.int (-1000000001)) (q_X9_set_127 X)) (s_al 4 (s_il 3 (s_cv X yX6_changeWhen 6 1 (q_X9_set_127 X)))))))] (s_push (.int (-1000000001)) (s_iret X)))))))))) (s_push (.int (-1000000001)) (s_iret X)))))
theorem b_X9_set_0 {E : mh_E} {d mc ms : Nat} {Post : Option Value → mh_H → Prop} : mh_S (x_X9_set E d mc ms Post) 0 (q_X9_set_0 (x_X9_set E d mc ms Post)) := sn_aload_n dX9_set_0 rfl (sn_iload_n dX9_set_1 rfl (sn_cv w_398 w_400 w_0 w_56 rfl nm_X9_isStone dX9_set_2 (sn_if_ne (tgt := 11) dX9_set_5 (by decide) (sn_aload_n dX9_set_11 rfl (sn_getr clX9 (by decide) w_334 dX9_set_12 (sn_getr clX0 (by decide) w_178 dX9_set_15 (sn_iload_n dX9_set_18 rfl (sn_aaload (by decide) rfl dX9_set_19 (sn_astore dX9_set_20 (Nat.le_of_ble_eq_true rfl) (sn_iload_n dX9_set_22 rfl (sn_table (tgt := 128) (ts := [(1, 29, 52), (2, 48, 71), (3, 67, 90), (4, 86, 109)]) dX9_set_23 (by decide +kernel) (by decide +kernel) (sw_cons (sn_iload_n dX9_set_52 rfl (sn_cs w_375 w_376 w_56 nm_X9_isOne dX9_set_53 (sn_if_eq (tgt := 68) dX9_set_56 (by decide) (sn_ldc dX9_set_68 w_387 b_X9_set_70) (sn_aload dX9_set_59 (sn_iload_n dX9_set_61 rfl (sn_cv w_486 w_487 w_488 w_61 rfl nm_X6_changeWho dX9_set_62 (sn_goto (tgt := 70) dX9_set_65 (by decide) (b_X9_set_70)))))))) (sw_cons (sn_iload_n dX9_set_71 rfl (sn_cs w_378 w_379 w_56 nm_X9_isSquare dX9_set_72 (sn_if_eq (tgt := 87) dX9_set_75 (by decide) (sn_ldc dX9_set_87 w_387 b_X9_set_89) (sn_aload dX9_set_78 (sn_iload_n dX9_set_80 rfl (sn_cv w_490 w_491 w_492 w_61 rfl nm_X6_changeWhere dX9_set_81 (sn_goto (tgt := 89) dX9_set_84 (by decide) (b_X9_set_89)))))))) (sw_cons (sn_iload_n dX9_set_90 rfl (sn_cs w_381 w_382 w_56 nm_X9_isRank dX9_set_91 (sn_if_eq (tgt := 106) dX9_set_94 (by decide) (sn_ldc dX9_set_106 w_387 b_X9_set_108) (sn_aload dX9_set_97 (sn_iload_n dX9_set_99 rfl (sn_cv w_494 w_495 w_496 w_61 rfl nm_X6_changeWhat dX9_set_100 (sn_goto (tgt := 108) dX9_set_103 (by decide) (b_X9_set_108)))))))) (sw_cons (sn_iload_n dX9_set_109 rfl (sn_cs w_384 w_385 w_56 nm_X9_isYear dX9_set_110 (sn_if_eq (tgt := 125) dX9_set_113 (by decide) (sn_ldc dX9_set_125 w_387 b_X9_set_127) (sn_aload dX9_set_116 (sn_iload_n dX9_set_118 rfl (sn_cv w_498 w_499 w_500 w_61 rfl nm_X6_changeWhen dX9_set_119 (sn_goto (tgt := 127) dX9_set_122 (by decide) (b_X9_set_127)))))))) sw_nil)))) (by decide) (sn_ldc dX9_set_128 w_387 (sn_iret rfl dX9_set_130)))))))))) (sn_ldc dX9_set_8 w_387 (sn_iret rfl dX9_set_10)))))
theorem m_X9_set {E : mh_E} {d mc ms : Nat} {args : List Value} {h : mh_H} {Post : Option Value → mh_H → Prop} (lv : List (Option Value)) (hl : lv_args 0 args = mh_al 0 lv) (hs : (lg_sl args).length ≤ 5) (hG : q_X9_set_0 (x_X9_set E d mc ms Post) lv [] h 0 0) : mh_M E d mc ms yX9_set args h Post := mh_M.of w_485 (by decide) (by decide) hl hs (b_X9_set_0 _ _ _ _ _ hG)
theorem dX9_undone_0 : decode cX9_undone 0 = .ok (.aload_n 0, 1) := by decide +kernel
theorem dX9_undone_1 : decode cX9_undone 1 = .ok (.iload_n 1, 1) := by decide +kernel
theorem dX9_undone_2 : decode cX9_undone 2 = .ok (.invokevirtual 86, 3) := by decide +kernel
theorem dX9_undone_5 : decode cX9_undone 5 = .ok (.ifCond .ne 6, 3) := by decide +kernel
theorem dX9_undone_8 : decode cX9_undone 8 = .ok (.ldc 81, 2) := by decide +kernel
theorem dX9_undone_10 : decode cX9_undone 10 = .ok (.ireturn, 1) := by decide +kernel
theorem dX9_undone_11 : decode cX9_undone 11 = .ok (.aload_n 0, 1) := by decide +kernel
theorem dX9_undone_12 : decode cX9_undone 12 = .ok (.getfield 12, 3) := by decide +kernel
theorem dX9_undone_15 : decode cX9_undone 15 = .ok (.getfield 89, 3) := by decide +kernel
theorem dX9_undone_18 : decode cX9_undone 18 = .ok (.iload_n 1, 1) := by decide +kernel
theorem dX9_undone_19 : decode cX9_undone 19 = .ok (.aaload, 1) := by decide +kernel
theorem dX9_undone_20 : decode cX9_undone 20 = .ok (.astore_n 2, 1) := by decide +kernel
theorem dX9_undone_21 : decode cX9_undone 21 = .ok (.aload_n 2, 1) := by decide +kernel
theorem dX9_undone_22 : decode cX9_undone 22 = .ok (.invokevirtual 142, 3) := by decide +kernel
theorem dX9_undone_25 : decode cX9_undone 25 = .ok (.ifCond .ne 6, 3) := by decide +kernel
theorem dX9_undone_28 : decode cX9_undone 28 = .ok (.ldc 146, 2) := by decide +kernel
theorem dX9_undone_30 : decode cX9_undone 30 = .ok (.ireturn, 1) := by decide +kernel
theorem dX9_undone_31 : decode cX9_undone 31 = .ok (.aload_n 2, 1) := by decide +kernel
theorem dX9_undone_32 : decode cX9_undone 32 = .ok (.ldc 147, 2) := by decide +kernel
theorem dX9_undone_34 : decode cX9_undone 34 = .ok (.putfield 110, 3) := by decide +kernel
theorem dX9_undone_37 : decode cX9_undone 37 = .ok (.iconst 1, 1) := by decide +kernel
theorem dX9_undone_38 : decode cX9_undone 38 = .ok (.ireturn, 1) := by decide +kernel
abbrev x_X9_undone (E : mh_E) (d mc ms : Nat) (Post : Option Value → mh_H → Prop) : mh_X := (E, yX9_undone, cX9_undone, 3, (some .int), d, mc, ms, Post)
def q_X9_undone_0 (X : mh_X) : mh_PR := s_al 0 (s_il 1 (s_cv X yX9_isStone 9 1 (s_if1 (fun x => ¬ x = 0) (s_al 0 (s_gr 9 0 (s_gr 0 1 (s_il 1 (s_aald 6 (s_as 2 (s_al 2 (s_cv X yX6_isFulfilled 6 0 (s_if1 (fun x => ¬ x = 0) (s_al 2 (s_push (.int (-1000000005)) (s_pi 6 5 (s_push (.int (1)) (s_iret X))))) (s_push (.int (-1000000002)) (s_iret X))))))))))) (s_push (.int (-1000000001)) (s_iret X)))))
theorem b_X9_undone_0 {E : mh_E} {d mc ms : Nat} {Post : Option Value → mh_H → Prop} : mh_S (x_X9_undone E d mc ms Post) 0 (q_X9_undone_0 (x_X9_undone E d mc ms Post)) := sn_aload_n dX9_undone_0 rfl (sn_iload_n dX9_undone_1 rfl (sn_cv w_398 w_400 w_0 w_56 rfl nm_X9_isStone dX9_undone_2 (sn_if_ne (tgt := 11) dX9_undone_5 (by decide) (sn_aload_n dX9_undone_11 rfl (sn_getr clX9 (by decide) w_334 dX9_undone_12 (sn_getr clX0 (by decide) w_178 dX9_undone_15 (sn_iload_n dX9_undone_18 rfl (sn_aaload (by decide) rfl dX9_undone_19 (sn_astore_n dX9_undone_20 rfl (Nat.le_of_ble_eq_true rfl) (sn_aload_n dX9_undone_21 rfl (sn_cv w_506 w_507 w_508 w_61 rfl nm_X6_isFulfilled dX9_undone_22 (sn_if_ne (tgt := 31) dX9_undone_25 (by decide) (sn_aload_n dX9_undone_31 rfl (sn_ldc dX9_undone_32 w_511 (sn_puti clX6 (by decide) w_160 rfl rfl dX9_undone_34 (sn_iconst dX9_undone_37 (by decide) (sn_iret rfl dX9_undone_38))))) (sn_ldc dX9_undone_28 w_510 (sn_iret rfl dX9_undone_30))))))))))) (sn_ldc dX9_undone_8 w_387 (sn_iret rfl dX9_undone_10)))))
theorem m_X9_undone {E : mh_E} {d mc ms : Nat} {args : List Value} {h : mh_H} {Post : Option Value → mh_H → Prop} (lv : List (Option Value)) (hl : lv_args 0 args = mh_al 0 lv) (hs : (lg_sl args).length ≤ 3) (hG : q_X9_undone_0 (x_X9_undone E d mc ms Post) lv [] h 0 0) : mh_M E d mc ms yX9_undone args h Post := mh_M.of w_505 (by decide) (by decide) hl hs (b_X9_undone_0 _ _ _ _ _ hG)
theorem dX9_person_0 : decode cX9_person 0 = .ok (.iload_n 1, 1) := by decide +kernel
theorem dX9_person_1 : decode cX9_person 1 = .ok (.invokestatic 69, 3) := by decide +kernel
theorem dX9_person_4 : decode cX9_person 4 = .ok (.ifCond .ne 6, 3) := by decide +kernel
theorem dX9_person_7 : decode cX9_person 7 = .ok (.ldc 81, 2) := by decide +kernel
theorem dX9_person_9 : decode cX9_person 9 = .ok (.ireturn, 1) := by decide +kernel
theorem dX9_person_10 : decode cX9_person 10 = .ok (.iload_n 2, 1) := by decide +kernel
theorem dX9_person_11 : decode cX9_person 11 = .ok (.lookupswitch 49 #[(0, 25), (1, 37)], 25) := by decide +kernel
theorem dX9_person_36 : decode cX9_person 36 = .ok (.aload_n 0, 1) := by decide +kernel
theorem dX9_person_37 : decode cX9_person 37 = .ok (.getfield 12, 3) := by decide +kernel
theorem dX9_person_40 : decode cX9_person 40 = .ok (.getfield 148, 3) := by decide +kernel
theorem dX9_person_43 : decode cX9_person 43 = .ok (.iload_n 1, 1) := by decide +kernel
theorem dX9_person_44 : decode cX9_person 44 = .ok (.invokevirtual 152, 3) := by decide +kernel
theorem dX9_person_47 : decode cX9_person 47 = .ok (.ireturn, 1) := by decide +kernel
theorem dX9_person_48 : decode cX9_person 48 = .ok (.aload_n 0, 1) := by decide +kernel
theorem dX9_person_49 : decode cX9_person 49 = .ok (.getfield 12, 3) := by decide +kernel
theorem dX9_person_52 : decode cX9_person 52 = .ok (.getfield 148, 3) := by decide +kernel
theorem dX9_person_55 : decode cX9_person 55 = .ok (.iload_n 1, 1) := by decide +kernel
theorem dX9_person_56 : decode cX9_person 56 = .ok (.invokevirtual 157, 3) := by decide +kernel
theorem dX9_person_59 : decode cX9_person 59 = .ok (.ireturn, 1) := by decide +kernel
theorem dX9_person_60 : decode cX9_person 60 = .ok (.ldc 81, 2) := by decide +kernel
theorem dX9_person_62 : decode cX9_person 62 = .ok (.ireturn, 1) := by decide +kernel
abbrev x_X9_person (E : mh_E) (d mc ms : Nat) (Post : Option Value → mh_H → Prop) : mh_X := (E, yX9_person, cX9_person, 3, (some .int), d, mc, ms, Post)
def q_X9_person_0 (X : mh_X) : mh_PR := s_il 1 (s_cs X yX9_isOne 1 (s_if1 (fun x => ¬ x = 0) (s_il 2 (s_sw [((0 : Int32), s_al 0 (s_gr 9 0 (s_gr 0 0 (s_il 1 (s_cv X yX3_squareOf 3 1 (s_iret X)))))), ((1 : Int32), s_al 0 (s_gr 9 0 (s_gr 0 0 (s_il 1 (s_cv X yX3_rankOf 3 1 (s_iret X))))))] (s_push (.int (-1000000001)) (s_iret X)))) (s_push (.int (-1000000001)) (s_iret X))))
theorem b_X9_person_0 {E : mh_E} {d mc ms : Nat} {Post : Option Value → mh_H → Prop} : mh_S (x_X9_person E d mc ms Post) 0 (q_X9_person_0 (x_X9_person E d mc ms Post)) := sn_iload_n dX9_person_0 rfl (sn_cs w_375 w_376 w_56 nm_X9_isOne dX9_person_1 (sn_if_ne (tgt := 10) dX9_person_4 (by decide) (sn_iload_n dX9_person_10 rfl (sn_lookup (tgt := 60) (ts := [(0, 25, 36), (1, 37, 48)]) dX9_person_11 (by decide +kernel) (by decide +kernel) (by decide +kernel) (sw_cons (sn_aload_n dX9_person_36 rfl (sn_getr clX9 (by decide) w_334 dX9_person_37 (sn_getr clX0 (by decide) w_176 dX9_person_40 (sn_iload_n dX9_person_43 rfl (sn_cv w_516 w_517 w_518 w_58 rfl nm_X3_squareOf dX9_person_44 (sn_iret rfl dX9_person_47)))))) (sw_cons (sn_aload_n dX9_person_48 rfl (sn_getr clX9 (by decide) w_334 dX9_person_49 (sn_getr clX0 (by decide) w_176 dX9_person_52 (sn_iload_n dX9_person_55 rfl (sn_cv w_521 w_522 w_523 w_58 rfl nm_X3_rankOf dX9_person_56 (sn_iret rfl dX9_person_59)))))) sw_nil)) (by decide) (sn_ldc dX9_person_60 w_387 (sn_iret rfl dX9_person_62)))) (sn_ldc dX9_person_7 w_387 (sn_iret rfl dX9_person_9))))
theorem m_X9_person {E : mh_E} {d mc ms : Nat} {args : List Value} {h : mh_H} {Post : Option Value → mh_H → Prop} (lv : List (Option Value)) (hl : lv_args 0 args = mh_al 0 lv) (hs : (lg_sl args).length ≤ 3) (hG : q_X9_person_0 (x_X9_person E d mc ms Post) lv [] h 0 0) : mh_M E d mc ms yX9_person args h Post := mh_M.of w_515 (by decide) (by decide) hl hs (b_X9_person_0 _ _ _ _ _ hG)
theorem dX9_sends_0 : decode cX9_sends 0 = .ok (.aload_n 0, 1) := by decide +kernel
theorem dX9_sends_1 : decode cX9_sends 1 = .ok (.iload_n 1, 1) := by decide +kernel
theorem dX9_sends_2 : decode cX9_sends 2 = .ok (.iload_n 2, 1) := by decide +kernel
theorem dX9_sends_3 : decode cX9_sends 3 = .ok (.invokevirtual 160, 3) := by decide +kernel
theorem dX9_sends_6 : decode cX9_sends 6 = .ok (.istore 4, 2) := by decide +kernel
theorem dX9_sends_8 : decode cX9_sends 8 = .ok (.iload 4, 2) := by decide +kernel
theorem dX9_sends_10 : decode cX9_sends 10 = .ok (.ldc 81, 2) := by decide +kernel
theorem dX9_sends_12 : decode cX9_sends 12 = .ok (.if_icmp .ne 6, 3) := by decide +kernel
theorem dX9_sends_15 : decode cX9_sends 15 = .ok (.ldc 81, 2) := by decide +kernel
theorem dX9_sends_17 : decode cX9_sends 17 = .ok (.ireturn, 1) := by decide +kernel
theorem dX9_sends_18 : decode cX9_sends 18 = .ok (.iload_n 2, 1) := by decide +kernel
theorem dX9_sends_19 : decode cX9_sends 19 = .ok (.ifCond .ne 28, 3) := by decide +kernel
theorem dX9_sends_22 : decode cX9_sends 22 = .ok (.iload_n 3, 1) := by decide +kernel
theorem dX9_sends_23 : decode cX9_sends 23 = .ok (.invokestatic 72, 3) := by decide +kernel
theorem dX9_sends_26 : decode cX9_sends 26 = .ok (.ifCond .ne 6, 3) := by decide +kernel
theorem dX9_sends_29 : decode cX9_sends 29 = .ok (.ldc 81, 2) := by decide +kernel
theorem dX9_sends_31 : decode cX9_sends 31 = .ok (.ireturn, 1) := by decide +kernel
theorem dX9_sends_32 : decode cX9_sends 32 = .ok (.aload_n 0, 1) := by decide +kernel
theorem dX9_sends_33 : decode cX9_sends 33 = .ok (.getfield 12, 3) := by decide +kernel
theorem dX9_sends_36 : decode cX9_sends 36 = .ok (.getfield 148, 3) := by decide +kernel
theorem dX9_sends_39 : decode cX9_sends 39 = .ok (.iload_n 1, 1) := by decide +kernel
theorem dX9_sends_40 : decode cX9_sends 40 = .ok (.iload_n 3, 1) := by decide +kernel
theorem dX9_sends_41 : decode cX9_sends 41 = .ok (.invokevirtual 164, 3) := by decide +kernel
theorem dX9_sends_44 : decode cX9_sends 44 = .ok (.goto 25, 3) := by decide +kernel
theorem dX9_sends_47 : decode cX9_sends 47 = .ok (.iload_n 3, 1) := by decide +kernel
theorem dX9_sends_48 : decode cX9_sends 48 = .ok (.invokestatic 75, 3) := by decide +kernel
theorem dX9_sends_51 : decode cX9_sends 51 = .ok (.ifCond .ne 6, 3) := by decide +kernel
theorem dX9_sends_54 : decode cX9_sends 54 = .ok (.ldc 81, 2) := by decide +kernel
theorem dX9_sends_56 : decode cX9_sends 56 = .ok (.ireturn, 1) := by decide +kernel
theorem dX9_sends_57 : decode cX9_sends 57 = .ok (.aload_n 0, 1) := by decide +kernel
theorem dX9_sends_58 : decode cX9_sends 58 = .ok (.getfield 12, 3) := by decide +kernel
theorem dX9_sends_61 : decode cX9_sends 61 = .ok (.getfield 148, 3) := by decide +kernel
theorem dX9_sends_64 : decode cX9_sends 64 = .ok (.iload_n 1, 1) := by decide +kernel
theorem dX9_sends_65 : decode cX9_sends 65 = .ok (.iload_n 3, 1) := by decide +kernel
theorem dX9_sends_66 : decode cX9_sends 66 = .ok (.invokevirtual 168, 3) := by decide +kernel
theorem dX9_sends_69 : decode cX9_sends 69 = .ok (.iload 4, 2) := by decide +kernel
theorem dX9_sends_71 : decode cX9_sends 71 = .ok (.ireturn, 1) := by decide +kernel
abbrev x_X9_sends (E : mh_E) (d mc ms : Nat) (Post : Option Value → mh_H → Prop) : mh_X := (E, yX9_sends, cX9_sends, 5, (some .int), d, mc, ms, Post)
def q_X9_sends_69 (X : mh_X) : mh_PR := s_il 4 (s_iret X)
theorem b_X9_sends_69 {E : mh_E} {d mc ms : Nat} {Post : Option Value → mh_H → Prop} : mh_S (x_X9_sends E d mc ms Post) 69 (q_X9_sends_69 (x_X9_sends E d mc ms Post)) := sn_iload dX9_sends_69 (sn_iret rfl dX9_sends_71)
def q_X9_sends_0 (X : mh_X) : mh_PR := s_al 0 (s_il 1 (s_il 2 (s_cv X yX9_person 9 2 (s_is 4 (s_il 4 (s_push (.int (-1000000001)) (s_if2 (fun x y => ¬ x = y) (s_il 2 (s_if1 (fun x => ¬ x = 0) (s_il 3 (s_cs X yX9_isRank 1 (s_if1 (fun x => ¬ x = 0) (s_al 0 (s_gr 9 0 (s_gr 0 0 (s_il 1 (s_il 3 (s_cv X yX3_promote 3 2 (q_X9_sends_69 X))))))) (s_push (.int (-1000000001)) (s_iret X))))) (s_il 3 (s_cs X yX9_isSquare 1 (s_if1 (fun x => ¬ x = 0) (s_al 0 (s_gr 9 0 (s_gr 0 0 (s_il 1 (s_il 3 (s_cv X yX3_move 3 2 (q_X9_sends_69 X))))))) (s_push (.int (-1000000001)) (s_iret X))))))) (s_push (.int (-1000000001)) (s_iret X)))))))))
theorem b_X9_sends_0 {E : mh_E} {d mc ms : Nat} {Post : Option Value → mh_H → Prop} : mh_S (x_X9_sends E d mc ms Post) 0 (q_X9_sends_0 (x_X9_sends E d mc ms Post)) := sn_aload_n dX9_sends_0 rfl (sn_iload_n dX9_sends_1 rfl (sn_iload_n dX9_sends_2 rfl (sn_cv w_529 w_513 w_514 w_56 rfl nm_X9_person dX9_sends_3 (sn_istore dX9_sends_6 (Nat.le_of_ble_eq_true rfl) (sn_iload dX9_sends_8 (sn_ldc dX9_sends_10 w_387 (sn_icmp_ne (tgt := 18) dX9_sends_12 (by decide) (sn_iload_n dX9_sends_18 rfl (sn_if_ne (tgt := 47) dX9_sends_19 (by decide) (sn_iload_n dX9_sends_47 rfl (sn_cs w_381 w_382 w_56 nm_X9_isRank dX9_sends_48 (sn_if_ne (tgt := 57) dX9_sends_51 (by decide) (sn_aload_n dX9_sends_57 rfl (sn_getr clX9 (by decide) w_334 dX9_sends_58 (sn_getr clX0 (by decide) w_176 dX9_sends_61 (sn_iload_n dX9_sends_64 rfl (sn_iload_n dX9_sends_65 rfl (sn_cv w_534 w_535 w_536 w_58 rfl nm_X3_promote dX9_sends_66 b_X9_sends_69)))))) (sn_ldc dX9_sends_54 w_387 (sn_iret rfl dX9_sends_56))))) (sn_iload_n dX9_sends_22 rfl (sn_cs w_378 w_379 w_56 nm_X9_isSquare dX9_sends_23 (sn_if_ne (tgt := 32) dX9_sends_26 (by decide) (sn_aload_n dX9_sends_32 rfl (sn_getr clX9 (by decide) w_334 dX9_sends_33 (sn_getr clX0 (by decide) w_176 dX9_sends_36 (sn_iload_n dX9_sends_39 rfl (sn_iload_n dX9_sends_40 rfl (sn_cv w_530 w_531 w_532 w_58 rfl nm_X3_move dX9_sends_41 (sn_goto (tgt := 69) dX9_sends_44 (by decide) (b_X9_sends_69)))))))) (sn_ldc dX9_sends_29 w_387 (sn_iret rfl dX9_sends_31))))))) (sn_ldc dX9_sends_15 w_387 (sn_iret rfl dX9_sends_17)))))))))
theorem m_X9_sends {E : mh_E} {d mc ms : Nat} {args : List Value} {h : mh_H} {Post : Option Value → mh_H → Prop} (lv : List (Option Value)) (hl : lv_args 0 args = mh_al 0 lv) (hs : (lg_sl args).length ≤ 5) (hG : q_X9_sends_0 (x_X9_sends E d mc ms Post) lv [] h 0 0) : mh_M E d mc ms yX9_sends args h Post := mh_M.of w_528 (by decide) (by decide) hl hs (b_X9_sends_0 _ _ _ _ _ hG)
theorem dX9_at_0 : decode cX9_at 0 = .ok (.iload_n 1, 1) := by decide +kernel
theorem dX9_at_1 : decode cX9_at 1 = .ok (.invokestatic 72, 3) := by decide +kernel
theorem dX9_at_4 : decode cX9_at 4 = .ok (.ifCond .eq 17, 3) := by decide +kernel
theorem dX9_at_7 : decode cX9_at 7 = .ok (.aload_n 0, 1) := by decide +kernel
theorem dX9_at_8 : decode cX9_at 8 = .ok (.getfield 12, 3) := by decide +kernel
theorem dX9_at_11 : decode cX9_at 11 = .ok (.getfield 148, 3) := by decide +kernel
theorem dX9_at_14 : decode cX9_at 14 = .ok (.iload_n 1, 1) := by decide +kernel
theorem dX9_at_15 : decode cX9_at 15 = .ok (.invokevirtual 171, 3) := by decide +kernel
theorem dX9_at_18 : decode cX9_at 18 = .ok (.goto 5, 3) := by decide +kernel
theorem dX9_at_21 : decode cX9_at 21 = .ok (.ldc 81, 2) := by decide +kernel
theorem dX9_at_23 : decode cX9_at 23 = .ok (.ireturn, 1) := by decide +kernel
abbrev x_X9_at (E : mh_E) (d mc ms : Nat) (Post : Option Value → mh_H → Prop) : mh_X := (E, yX9_at, cX9_at, 2, (some .int), d, mc, ms, Post)
def q_X9_at_23 (X : mh_X) : mh_PR := s_iret X
theorem b_X9_at_23 {E : mh_E} {d mc ms : Nat} {Post : Option Value → mh_H → Prop} : mh_S (x_X9_at E d mc ms Post) 23 (q_X9_at_23 (x_X9_at E d mc ms Post)) := sn_iret rfl dX9_at_23
def q_X9_at_0 (X : mh_X) : mh_PR := s_il 1 (s_cs X yX9_isSquare 1 (s_if1 (fun x => x = 0) (s_push (.int (-1000000001)) (q_X9_at_23 X)) (s_al 0 (s_gr 9 0 (s_gr 0 0 (s_il 1 (s_cv X yX3_crowdAt 3 1 (q_X9_at_23 X))))))))
theorem b_X9_at_0 {E : mh_E} {d mc ms : Nat} {Post : Option Value → mh_H → Prop} : mh_S (x_X9_at E d mc ms Post) 0 (q_X9_at_0 (x_X9_at E d mc ms Post)) := sn_iload_n dX9_at_0 rfl (sn_cs w_378 w_379 w_56 nm_X9_isSquare dX9_at_1 (sn_if_eq (tgt := 21) dX9_at_4 (by decide) (sn_ldc dX9_at_21 w_387 b_X9_at_23) (sn_aload_n dX9_at_7 rfl (sn_getr clX9 (by decide) w_334 dX9_at_8 (sn_getr clX0 (by decide) w_176 dX9_at_11 (sn_iload_n dX9_at_14 rfl (sn_cv w_542 w_407 w_408 w_58 rfl nm_X3_crowdAt dX9_at_15 (sn_goto (tgt := 23) dX9_at_18 (by decide) (b_X9_at_23)))))))))
theorem m_X9_at {E : mh_E} {d mc ms : Nat} {args : List Value} {h : mh_H} {Post : Option Value → mh_H → Prop} (lv : List (Option Value)) (hl : lv_args 0 args = mh_al 0 lv) (hs : (lg_sl args).length ≤ 2) (hG : q_X9_at_0 (x_X9_at E d mc ms Post) lv [] h 0 0) : mh_M E d mc ms yX9_at args h Post := mh_M.of w_541 (by decide) (by decide) hl hs (b_X9_at_0 _ _ _ _ _ hG)
theorem dX9_rule_0 : decode cX9_rule 0 = .ok (.iload_n 2, 1) := by decide +kernel
theorem dX9_rule_1 : decode cX9_rule 1 = .ok (.ifCond .lt 9, 3) := by decide +kernel
theorem dX9_rule_4 : decode cX9_rule 4 = .ok (.iload_n 2, 1) := by decide +kernel
theorem dX9_rule_5 : decode cX9_rule 5 = .ok (.bipush 100, 2) := by decide +kernel
theorem dX9_rule_7 : decode cX9_rule 7 = .ok (.if_icmp .le 6, 3) := by decide +kernel
theorem dX9_rule_10 : decode cX9_rule 10 = .ok (.ldc 81, 2) := by decide +kernel
theorem dX9_rule_12 : decode cX9_rule 12 = .ok (.ireturn, 1) := by decide +kernel
theorem dX9_rule_13 : decode cX9_rule 13 = .ok (.iload_n 1, 1) := by decide +kernel
theorem dX9_rule_14 : decode cX9_rule 14 = .ok (.lookupswitch 62 #[(0, 26), (1, 44)], 26) := by decide +kernel
theorem dX9_rule_40 : decode cX9_rule 40 = .ok (.aload_n 0, 1) := by decide +kernel
theorem dX9_rule_41 : decode cX9_rule 41 = .ok (.getfield 12, 3) := by decide +kernel
theorem dX9_rule_44 : decode cX9_rule 44 = .ok (.getfield 174, 3) := by decide +kernel
theorem dX9_rule_47 : decode cX9_rule 47 = .ok (.istore_n 3, 1) := by decide +kernel
theorem dX9_rule_48 : decode cX9_rule 48 = .ok (.aload_n 0, 1) := by decide +kernel
theorem dX9_rule_49 : decode cX9_rule 49 = .ok (.getfield 12, 3) := by decide +kernel
theorem dX9_rule_52 : decode cX9_rule 52 = .ok (.iload_n 2, 1) := by decide +kernel
theorem dX9_rule_53 : decode cX9_rule 53 = .ok (.putfield 174, 3) := by decide +kernel
theorem dX9_rule_56 : decode cX9_rule 56 = .ok (.iload_n 3, 1) := by decide +kernel
theorem dX9_rule_57 : decode cX9_rule 57 = .ok (.ireturn, 1) := by decide +kernel
theorem dX9_rule_58 : decode cX9_rule 58 = .ok (.aload_n 0, 1) := by decide +kernel
theorem dX9_rule_59 : decode cX9_rule 59 = .ok (.getfield 12, 3) := by decide +kernel
theorem dX9_rule_62 : decode cX9_rule 62 = .ok (.getfield 177, 3) := by decide +kernel
theorem dX9_rule_65 : decode cX9_rule 65 = .ok (.istore_n 3, 1) := by decide +kernel
theorem dX9_rule_66 : decode cX9_rule 66 = .ok (.aload_n 0, 1) := by decide +kernel
theorem dX9_rule_67 : decode cX9_rule 67 = .ok (.getfield 12, 3) := by decide +kernel
theorem dX9_rule_70 : decode cX9_rule 70 = .ok (.iload_n 2, 1) := by decide +kernel
theorem dX9_rule_71 : decode cX9_rule 71 = .ok (.putfield 177, 3) := by decide +kernel
theorem dX9_rule_74 : decode cX9_rule 74 = .ok (.iload_n 3, 1) := by decide +kernel
theorem dX9_rule_75 : decode cX9_rule 75 = .ok (.ireturn, 1) := by decide +kernel
theorem dX9_rule_76 : decode cX9_rule 76 = .ok (.ldc 81, 2) := by decide +kernel
theorem dX9_rule_78 : decode cX9_rule 78 = .ok (.ireturn, 1) := by decide +kernel
abbrev x_X9_rule (E : mh_E) (d mc ms : Nat) (Post : Option Value → mh_H → Prop) : mh_X := (E, yX9_rule, cX9_rule, 4, (some .int), d, mc, ms, Post)
def q_X9_rule_10 (X : mh_X) : mh_PR := s_push (.int (-1000000001)) (s_iret X)
theorem b_X9_rule_10 {E : mh_E} {d mc ms : Nat} {Post : Option Value → mh_H → Prop} : mh_S (x_X9_rule E d mc ms Post) 10 (q_X9_rule_10 (x_X9_rule E d mc ms Post)) := sn_ldc dX9_rule_10 w_387 (sn_iret rfl dX9_rule_12)
def q_X9_rule_0 (X : mh_X) : mh_PR := s_il 2 (s_if1 (fun x => x < 0) (q_X9_rule_10 X) (s_il 2 (s_push (.int (100)) (s_if2 (fun x y => x ≤ y) (s_il 1 (s_sw [((0 : Int32), s_al 0 (s_gr 9 0 (s_gi 0 4 (s_is 3 (s_al 0 (s_gr 9 0 (s_il 2 (s_pi 0 4 (s_il 3 (s_iret X)))))))))), ((1 : Int32), s_al 0 (s_gr 9 0 (s_gi 0 5 (s_is 3 (s_al 0 (s_gr 9 0 (s_il 2 (s_pi 0 5 (s_il 3 (s_iret X))))))))))] (s_push (.int (-1000000001)) (s_iret X)))) (q_X9_rule_10 X)))))
theorem b_X9_rule_0 {E : mh_E} {d mc ms : Nat} {Post : Option Value → mh_H → Prop} : mh_S (x_X9_rule E d mc ms Post) 0 (q_X9_rule_0 (x_X9_rule E d mc ms Post)) := sn_iload_n dX9_rule_0 rfl (sn_if_lt (tgt := 10) dX9_rule_1 (by decide) (b_X9_rule_10) (sn_iload_n dX9_rule_4 rfl (sn_bipush dX9_rule_5 (by decide) (sn_icmp_le (tgt := 13) dX9_rule_7 (by decide) (sn_iload_n dX9_rule_13 rfl (sn_lookup (tgt := 76) (ts := [(0, 26, 40), (1, 44, 58)]) dX9_rule_14 (by decide +kernel) (by decide +kernel) (by decide +kernel) (sw_cons (sn_aload_n dX9_rule_40 rfl (sn_getr clX9 (by decide) w_334 dX9_rule_41 (sn_geti clX0 (by decide) w_186 dX9_rule_44 (sn_istore_n dX9_rule_47 rfl (Nat.le_of_ble_eq_true rfl) (sn_aload_n dX9_rule_48 rfl (sn_getr clX9 (by decide) w_334 dX9_rule_49 (sn_iload_n dX9_rule_52 rfl (sn_puti clX0 (by decide) w_186 rfl rfl dX9_rule_53 (sn_iload_n dX9_rule_56 rfl (sn_iret rfl dX9_rule_57)))))))))) (sw_cons (sn_aload_n dX9_rule_58 rfl (sn_getr clX9 (by decide) w_334 dX9_rule_59 (sn_geti clX0 (by decide) w_188 dX9_rule_62 (sn_istore_n dX9_rule_65 rfl (Nat.le_of_ble_eq_true rfl) (sn_aload_n dX9_rule_66 rfl (sn_getr clX9 (by decide) w_334 dX9_rule_67 (sn_iload_n dX9_rule_70 rfl (sn_puti clX0 (by decide) w_188 rfl rfl dX9_rule_71 (sn_iload_n dX9_rule_74 rfl (sn_iret rfl dX9_rule_75)))))))))) sw_nil)) (by decide) (sn_ldc dX9_rule_76 w_387 (sn_iret rfl dX9_rule_78)))) (b_X9_rule_10)))))
theorem m_X9_rule {E : mh_E} {d mc ms : Nat} {args : List Value} {h : mh_H} {Post : Option Value → mh_H → Prop} (lv : List (Option Value)) (hl : lv_args 0 args = mh_al 0 lv) (hs : (lg_sl args).length ≤ 4) (hG : q_X9_rule_0 (x_X9_rule E d mc ms Post) lv [] h 0 0) : mh_M E d mc ms yX9_rule args h Post := mh_M.of w_546 (by decide) (by decide) hl hs (b_X9_rule_0 _ _ _ _ _ hG)
theorem dX9_deal_0 : decode cX9_deal 0 = .ok (.iload_n 1, 1) := by decide +kernel
theorem dX9_deal_1 : decode cX9_deal 1 = .ok (.iconst 1, 1) := by decide +kernel
theorem dX9_deal_2 : decode cX9_deal 2 = .ok (.if_icmp .lt 9, 3) := by decide +kernel
theorem dX9_deal_5 : decode cX9_deal 5 = .ok (.iload_n 1, 1) := by decide +kernel
theorem dX9_deal_6 : decode cX9_deal 6 = .ok (.bipush 10, 2) := by decide +kernel
theorem dX9_deal_8 : decode cX9_deal 8 = .ok (.if_icmp .le 6, 3) := by decide +kernel
theorem dX9_deal_11 : decode cX9_deal 11 = .ok (.ldc 81, 2) := by decide +kernel
theorem dX9_deal_13 : decode cX9_deal 13 = .ok (.ireturn, 1) := by decide +kernel
theorem dX9_deal_14 : decode cX9_deal 14 = .ok (.iconst 0, 1) := by decide +kernel
theorem dX9_deal_15 : decode cX9_deal 15 = .ok (.istore_n 2, 1) := by decide +kernel
theorem dX9_deal_16 : decode cX9_deal 16 = .ok (.iload_n 2, 1) := by decide +kernel
theorem dX9_deal_17 : decode cX9_deal 17 = .ok (.iload_n 1, 1) := by decide +kernel
theorem dX9_deal_18 : decode cX9_deal 18 = .ok (.if_icmp .ge 28, 3) := by decide +kernel
theorem dX9_deal_21 : decode cX9_deal 21 = .ok (.aload_n 0, 1) := by decide +kernel
theorem dX9_deal_22 : decode cX9_deal 22 = .ok (.getfield 12, 3) := by decide +kernel
theorem dX9_deal_25 : decode cX9_deal 25 = .ok (.getfield 180, 3) := by decide +kernel
theorem dX9_deal_28 : decode cX9_deal 28 = .ok (.bipush 10, 2) := by decide +kernel
theorem dX9_deal_30 : decode cX9_deal 30 = .ok (.if_icmp .ge 16, 3) := by decide +kernel
theorem dX9_deal_33 : decode cX9_deal 33 = .ok (.aload_n 0, 1) := by decide +kernel
theorem dX9_deal_34 : decode cX9_deal 34 = .ok (.getfield 12, 3) := by decide +kernel
theorem dX9_deal_37 : decode cX9_deal 37 = .ok (.invokevirtual 183, 3) := by decide +kernel
theorem dX9_deal_40 : decode cX9_deal 40 = .ok (.iinc 2 1, 3) := by decide +kernel
theorem dX9_deal_43 : decode cX9_deal 43 = .ok (.goto (-27), 3) := by decide +kernel
theorem dX9_deal_46 : decode cX9_deal 46 = .ok (.iload_n 2, 1) := by decide +kernel
theorem dX9_deal_47 : decode cX9_deal 47 = .ok (.ireturn, 1) := by decide +kernel
abbrev x_X9_deal (E : mh_E) (d mc ms : Nat) (Post : Option Value → mh_H → Prop) : mh_X := (E, yX9_deal, cX9_deal, 3, (some .int), d, mc, ms, Post)
def q_X9_deal_46 (X : mh_X) : mh_PR := s_il 2 (s_iret X)
theorem b_X9_deal_46 {E : mh_E} {d mc ms : Nat} {Post : Option Value → mh_H → Prop} : mh_S (x_X9_deal E d mc ms Post) 46 (q_X9_deal_46 (x_X9_deal E d mc ms Post)) := sn_iload_n dX9_deal_46 rfl (sn_iret rfl dX9_deal_47)
def q_X9_deal_16 (X : mh_X) : mh_PR := s_il 2 (s_il 1 (s_if2 (fun x y => y ≤ x) (q_X9_deal_46 X) (s_al 0 (s_gr 9 0 (s_gi 0 3 (s_push (.int (10)) (s_if2 (fun x y => y ≤ x) (q_X9_deal_46 X) (s_al 0 (s_gr 9 0 (s_cv X yX0_putUpDrawn 0 0 (s_inc 2 (1) (mh_G X 16))))))))))))
theorem b_X9_deal_16 {E : mh_E} {d mc ms : Nat} {Post : Option Value → mh_H → Prop} : mh_S (x_X9_deal E d mc ms Post) 16 (q_X9_deal_16 (x_X9_deal E d mc ms Post)) := sn_iload_n dX9_deal_16 rfl (sn_iload_n dX9_deal_17 rfl (sn_icmp_ge (tgt := 46) dX9_deal_18 (by decide) (b_X9_deal_46) (sn_aload_n dX9_deal_21 rfl (sn_getr clX9 (by decide) w_334 dX9_deal_22 (sn_geti clX0 (by decide) w_184 dX9_deal_25 (sn_bipush dX9_deal_28 (by decide) (sn_icmp_ge (tgt := 46) dX9_deal_30 (by decide) (b_X9_deal_46) (sn_aload_n dX9_deal_33 rfl (sn_getr clX9 (by decide) w_334 dX9_deal_34 (sn_cv w_551 w_552 w_553 w_57 rfl nm_X0_putUpDrawn dX9_deal_37 (sn_iinc dX9_deal_40 (by decide) (Nat.le_of_ble_eq_true rfl) (sn_goto (tgt := 16) dX9_deal_43 (by decide) (mh_S.G)))))))))))))
def q_X9_deal_11 (X : mh_X) : mh_PR := s_push (.int (-1000000001)) (s_iret X)
theorem b_X9_deal_11 {E : mh_E} {d mc ms : Nat} {Post : Option Value → mh_H → Prop} : mh_S (x_X9_deal E d mc ms Post) 11 (q_X9_deal_11 (x_X9_deal E d mc ms Post)) := sn_ldc dX9_deal_11 w_387 (sn_iret rfl dX9_deal_13)
def q_X9_deal_0 (X : mh_X) : mh_PR := s_il 1 (s_push (.int (1)) (s_if2 (fun x y => x < y) (q_X9_deal_11 X) (s_il 1 (s_push (.int (10)) (s_if2 (fun x y => x ≤ y) (s_push (.int (0)) (s_is 2 (mh_G X 16))) (q_X9_deal_11 X))))))
theorem b_X9_deal_0 {E : mh_E} {d mc ms : Nat} {Post : Option Value → mh_H → Prop} : mh_S (x_X9_deal E d mc ms Post) 0 (q_X9_deal_0 (x_X9_deal E d mc ms Post)) := sn_iload_n dX9_deal_0 rfl (sn_iconst dX9_deal_1 (by decide) (sn_icmp_lt (tgt := 11) dX9_deal_2 (by decide) (b_X9_deal_11) (sn_iload_n dX9_deal_5 rfl (sn_bipush dX9_deal_6 (by decide) (sn_icmp_le (tgt := 14) dX9_deal_8 (by decide) (sn_iconst dX9_deal_14 (by decide) (sn_istore_n dX9_deal_15 rfl (Nat.le_of_ble_eq_true rfl) mh_S.G)) (b_X9_deal_11))))))
theorem m_X9_deal {E : mh_E} {d mc ms : Nat} {args : List Value} {h : mh_H} {Post : Option Value → mh_H → Prop} (lv : List (Option Value)) (hl : lv_args 0 args = mh_al 0 lv) (hs : (lg_sl args).length ≤ 3) (hG : q_X9_deal_0 (x_X9_deal E d mc ms Post) lv [] h 0 0) : mh_M E d mc ms yX9_deal args h Post := mh_M.of w_550 (by decide) (by decide) hl hs (b_X9_deal_0 _ _ _ _ _ hG)
theorem dX9_seed_0 : decode cX9_seed 0 = .ok (.aload_n 0, 1) := by decide +kernel
theorem dX9_seed_1 : decode cX9_seed 1 = .ok (.getfield 12, 3) := by decide +kernel
theorem dX9_seed_4 : decode cX9_seed 4 = .ok (.getfield 186, 3) := by decide +kernel
theorem dX9_seed_7 : decode cX9_seed 7 = .ok (.istore_n 2, 1) := by decide +kernel
theorem dX9_seed_8 : decode cX9_seed 8 = .ok (.aload_n 0, 1) := by decide +kernel
theorem dX9_seed_9 : decode cX9_seed 9 = .ok (.getfield 12, 3) := by decide +kernel
theorem dX9_seed_12 : decode cX9_seed 12 = .ok (.iload_n 1, 1) := by decide +kernel
theorem dX9_seed_13 : decode cX9_seed 13 = .ok (.putfield 186, 3) := by decide +kernel
theorem dX9_seed_16 : decode cX9_seed 16 = .ok (.iload_n 2, 1) := by decide +kernel
theorem dX9_seed_17 : decode cX9_seed 17 = .ok (.ireturn, 1) := by decide +kernel
abbrev x_X9_seed (E : mh_E) (d mc ms : Nat) (Post : Option Value → mh_H → Prop) : mh_X := (E, yX9_seed, cX9_seed, 3, (some .int), d, mc, ms, Post)
def q_X9_seed_0 (X : mh_X) : mh_PR := s_al 0 (s_gr 9 0 (s_gi 0 9 (s_is 2 (s_al 0 (s_gr 9 0 (s_il 1 (s_pi 0 9 (s_il 2 (s_iret X)))))))))
theorem b_X9_seed_0 {E : mh_E} {d mc ms : Nat} {Post : Option Value → mh_H → Prop} : mh_S (x_X9_seed E d mc ms Post) 0 (q_X9_seed_0 (x_X9_seed E d mc ms Post)) := sn_aload_n dX9_seed_0 rfl (sn_getr clX9 (by decide) w_334 dX9_seed_1 (sn_geti clX0 (by decide) w_196 dX9_seed_4 (sn_istore_n dX9_seed_7 rfl (Nat.le_of_ble_eq_true rfl) (sn_aload_n dX9_seed_8 rfl (sn_getr clX9 (by decide) w_334 dX9_seed_9 (sn_iload_n dX9_seed_12 rfl (sn_puti clX0 (by decide) w_196 rfl rfl dX9_seed_13 (sn_iload_n dX9_seed_16 rfl (sn_iret rfl dX9_seed_17)))))))))
theorem m_X9_seed {E : mh_E} {d mc ms : Nat} {args : List Value} {h : mh_H} {Post : Option Value → mh_H → Prop} (lv : List (Option Value)) (hl : lv_args 0 args = mh_al 0 lv) (hs : (lg_sl args).length ≤ 3) (hG : q_X9_seed_0 (x_X9_seed E d mc ms Post) lv [] h 0 0) : mh_M E d mc ms yX9_seed args h Post := mh_M.of w_564 (by decide) (by decide) hl hs (b_X9_seed_0 _ _ _ _ _ hG)
theorem dX9_years_0 : decode cX9_years 0 = .ok (.iload_n 1, 1) := by decide +kernel
theorem dX9_years_1 : decode cX9_years 1 = .ok (.iconst 1, 1) := by decide +kernel
theorem dX9_years_2 : decode cX9_years 2 = .ok (.if_icmp .lt 9, 3) := by decide +kernel
theorem dX9_years_5 : decode cX9_years 5 = .ok (.iload_n 1, 1) := by decide +kernel
theorem dX9_years_6 : decode cX9_years 6 = .ok (.bipush 100, 2) := by decide +kernel
theorem dX9_years_8 : decode cX9_years 8 = .ok (.if_icmp .le 6, 3) := by decide +kernel
theorem dX9_years_11 : decode cX9_years 11 = .ok (.ldc 81, 2) := by decide +kernel
theorem dX9_years_13 : decode cX9_years 13 = .ok (.ireturn, 1) := by decide +kernel
theorem dX9_years_14 : decode cX9_years 14 = .ok (.aload_n 0, 1) := by decide +kernel
theorem dX9_years_15 : decode cX9_years 15 = .ok (.getfield 12, 3) := by decide +kernel
theorem dX9_years_18 : decode cX9_years 18 = .ok (.iload_n 1, 1) := by decide +kernel
theorem dX9_years_19 : decode cX9_years 19 = .ok (.sipush 9999, 3) := by decide +kernel
theorem dX9_years_22 : decode cX9_years 22 = .ok (.aload_n 0, 1) := by decide +kernel
theorem dX9_years_23 : decode cX9_years 23 = .ok (.getfield 12, 3) := by decide +kernel
theorem dX9_years_26 : decode cX9_years 26 = .ok (.getfield 189, 3) := by decide +kernel
theorem dX9_years_29 : decode cX9_years 29 = .ok (.isub, 1) := by decide +kernel
theorem dX9_years_30 : decode cX9_years 30 = .ok (.invokestatic 192, 3) := by decide +kernel
theorem dX9_years_33 : decode cX9_years 33 = .ok (.invokevirtual 197, 3) := by decide +kernel
theorem dX9_years_36 : decode cX9_years 36 = .ok (.ireturn, 1) := by decide +kernel
abbrev x_X9_years (E : mh_E) (d mc ms : Nat) (Post : Option Value → mh_H → Prop) : mh_X := (E, yX9_years, cX9_years, 2, (some .int), d, mc, ms, Post)
def q_X9_years_11 (X : mh_X) : mh_PR := s_push (.int (-1000000001)) (s_iret X)
theorem b_X9_years_11 {E : mh_E} {d mc ms : Nat} {Post : Option Value → mh_H → Prop} : mh_S (x_X9_years E d mc ms Post) 11 (q_X9_years_11 (x_X9_years E d mc ms Post)) := sn_ldc dX9_years_11 w_387 (sn_iret rfl dX9_years_13)
def q_X9_years_0 (X : mh_X) : mh_PR := s_il 1 (s_push (.int (1)) (s_if2 (fun x y => x < y) (q_X9_years_11 X) (s_il 1 (s_push (.int (100)) (s_if2 (fun x y => x ≤ y) (s_al 0 (s_gr 9 0 (s_il 1 (s_push (.int (9999)) (s_al 0 (s_gr 9 0 (s_gi 0 8 (s_bin (fun x y => x - y) (s_mm X (fun x y => if y < x then y else x) (s_cv X yX0_passYears 0 1 (s_iret X))))))))))) (q_X9_years_11 X))))))
theorem b_X9_years_0 {E : mh_E} {d mc ms : Nat} {Post : Option Value → mh_H → Prop} : mh_S (x_X9_years E d mc ms Post) 0 (q_X9_years_0 (x_X9_years E d mc ms Post)) := sn_iload_n dX9_years_0 rfl (sn_iconst dX9_years_1 (by decide) (sn_icmp_lt (tgt := 11) dX9_years_2 (by decide) (b_X9_years_11) (sn_iload_n dX9_years_5 rfl (sn_bipush dX9_years_6 (by decide) (sn_icmp_le (tgt := 14) dX9_years_8 (by decide) (sn_aload_n dX9_years_14 rfl (sn_getr clX9 (by decide) w_334 dX9_years_15 (sn_iload_n dX9_years_18 rfl (sn_sipush dX9_years_19 (by decide) (sn_aload_n dX9_years_22 rfl (sn_getr clX9 (by decide) w_334 dX9_years_23 (sn_geti clX0 (by decide) w_194 dX9_years_26 (sn_isub dX9_years_29 (sn_mmin w_569 w_456 w_67 w_math_min dX9_years_30 (sn_cv w_570 w_571 w_572 w_57 rfl nm_X0_passYears dX9_years_33 (sn_iret rfl dX9_years_36))))))))))) (b_X9_years_11))))))
theorem m_X9_years {E : mh_E} {d mc ms : Nat} {args : List Value} {h : mh_H} {Post : Option Value → mh_H → Prop} (lv : List (Option Value)) (hl : lv_args 0 args = mh_al 0 lv) (hs : (lg_sl args).length ≤ 2) (hG : q_X9_years_0 (x_X9_years E d mc ms Post) lv [] h 0 0) : mh_M E d mc ms yX9_years args h Post := mh_M.of w_568 (by decide) (by decide) hl hs (b_X9_years_0 _ _ _ _ _ hG)
theorem dX9_city_0 : decode cX9_city 0 = .ok (.iload_n 1, 1) := by decide +kernel
theorem dX9_city_1 : decode cX9_city 1 = .ok (.tableswitch 90 0 5 #[39, 47, 55, 63, 71, 79], 39) := by decide +kernel
theorem dX9_city_40 : decode cX9_city 40 = .ok (.aload_n 0, 1) := by decide +kernel
theorem dX9_city_41 : decode cX9_city 41 = .ok (.getfield 12, 3) := by decide +kernel
theorem dX9_city_44 : decode cX9_city 44 = .ok (.getfield 200, 3) := by decide +kernel
theorem dX9_city_47 : decode cX9_city 47 = .ok (.ireturn, 1) := by decide +kernel
theorem dX9_city_48 : decode cX9_city 48 = .ok (.aload_n 0, 1) := by decide +kernel
theorem dX9_city_49 : decode cX9_city 49 = .ok (.getfield 12, 3) := by decide +kernel
theorem dX9_city_52 : decode cX9_city 52 = .ok (.getfield 203, 3) := by decide +kernel
theorem dX9_city_55 : decode cX9_city 55 = .ok (.ireturn, 1) := by decide +kernel
theorem dX9_city_56 : decode cX9_city 56 = .ok (.aload_n 0, 1) := by decide +kernel
theorem dX9_city_57 : decode cX9_city 57 = .ok (.getfield 12, 3) := by decide +kernel
theorem dX9_city_60 : decode cX9_city 60 = .ok (.invokevirtual 206, 3) := by decide +kernel
theorem dX9_city_63 : decode cX9_city 63 = .ok (.ireturn, 1) := by decide +kernel
theorem dX9_city_64 : decode cX9_city 64 = .ok (.aload_n 0, 1) := by decide +kernel
theorem dX9_city_65 : decode cX9_city 65 = .ok (.getfield 12, 3) := by decide +kernel
theorem dX9_city_68 : decode cX9_city 68 = .ok (.invokevirtual 209, 3) := by decide +kernel
theorem dX9_city_71 : decode cX9_city 71 = .ok (.ireturn, 1) := by decide +kernel
theorem dX9_city_72 : decode cX9_city 72 = .ok (.aload_n 0, 1) := by decide +kernel
theorem dX9_city_73 : decode cX9_city 73 = .ok (.getfield 12, 3) := by decide +kernel
theorem dX9_city_76 : decode cX9_city 76 = .ok (.invokevirtual 212, 3) := by decide +kernel
theorem dX9_city_79 : decode cX9_city 79 = .ok (.ireturn, 1) := by decide +kernel
theorem dX9_city_80 : decode cX9_city 80 = .ok (.aload_n 0, 1) := by decide +kernel
theorem dX9_city_81 : decode cX9_city 81 = .ok (.getfield 12, 3) := by decide +kernel
theorem dX9_city_84 : decode cX9_city 84 = .ok (.getfield 148, 3) := by decide +kernel
theorem dX9_city_87 : decode cX9_city 87 = .ok (.invokevirtual 215, 3) := by decide +kernel
theorem dX9_city_90 : decode cX9_city 90 = .ok (.ireturn, 1) := by decide +kernel
theorem dX9_city_91 : decode cX9_city 91 = .ok (.ldc 81, 2) := by decide +kernel
theorem dX9_city_93 : decode cX9_city 93 = .ok (.ireturn, 1) := by decide +kernel
abbrev x_X9_city (E : mh_E) (d mc ms : Nat) (Post : Option Value → mh_H → Prop) : mh_X := (E, yX9_city, cX9_city, 2, (some .int), d, mc, ms, Post)
def q_X9_city_0 (X : mh_X) : mh_PR := s_il 1 (s_sw [((0 : Int32), s_al 0 (s_gr 9 0 (s_gi 0 6 (s_iret X)))), ((1 : Int32), s_al 0 (s_gr 9 0 (s_gi 0 7 (s_iret X)))), ((2 : Int32), s_al 0 (s_gr 9 0 (s_cv X yX0_fulfilledSet 0 0 (s_iret X)))), ((3 : Int32), s_al 0 (s_gr 9 0 (s_cv X yX0_openSet 0 0 (s_iret X)))), ((4 : Int32), s_al 0 (s_gr 9 0 (s_cv X yX0_holdingSet 0 0 (s_iret X)))), ((5 : Int32), s_al 0 (s_gr 9 0 (s_gr 0 0 (s_cv X yX3_ranksTogether 3 0 (s_iret X)))))] (s_push (.int (-1000000001)) (s_iret X)))
theorem b_X9_city_0 {E : mh_E} {d mc ms : Nat} {Post : Option Value → mh_H → Prop} : mh_S (x_X9_city E d mc ms Post) 0 (q_X9_city_0 (x_X9_city E d mc ms Post)) := sn_iload_n dX9_city_0 rfl (sn_table (tgt := 91) (ts := [(0, 39, 40), (1, 47, 48), (2, 55, 56), (3, 63, 64), (4, 71, 72), (5, 79, 80)]) dX9_city_1 (by decide +kernel) (by decide +kernel) (sw_cons (sn_aload_n dX9_city_40 rfl (sn_getr clX9 (by decide) w_334 dX9_city_41 (sn_geti clX0 (by decide) w_190 dX9_city_44 (sn_iret rfl dX9_city_47)))) (sw_cons (sn_aload_n dX9_city_48 rfl (sn_getr clX9 (by decide) w_334 dX9_city_49 (sn_geti clX0 (by decide) w_192 dX9_city_52 (sn_iret rfl dX9_city_55)))) (sw_cons (sn_aload_n dX9_city_56 rfl (sn_getr clX9 (by decide) w_334 dX9_city_57 (sn_cv w_596 w_597 w_598 w_57 rfl nm_X0_fulfilledSet dX9_city_60 (sn_iret rfl dX9_city_63)))) (sw_cons (sn_aload_n dX9_city_64 rfl (sn_getr clX9 (by decide) w_334 dX9_city_65 (sn_cv w_600 w_601 w_602 w_57 rfl nm_X0_openSet dX9_city_68 (sn_iret rfl dX9_city_71)))) (sw_cons (sn_aload_n dX9_city_72 rfl (sn_getr clX9 (by decide) w_334 dX9_city_73 (sn_cv w_604 w_605 w_606 w_57 rfl nm_X0_holdingSet dX9_city_76 (sn_iret rfl dX9_city_79)))) (sw_cons (sn_aload_n dX9_city_80 rfl (sn_getr clX9 (by decide) w_334 dX9_city_81 (sn_getr clX0 (by decide) w_176 dX9_city_84 (sn_cv w_608 w_609 w_610 w_58 rfl nm_X3_ranksTogether dX9_city_87 (sn_iret rfl dX9_city_90))))) sw_nil)))))) (by decide) (sn_ldc dX9_city_91 w_387 (sn_iret rfl dX9_city_93)))
theorem m_X9_city {E : mh_E} {d mc ms : Nat} {args : List Value} {h : mh_H} {Post : Option Value → mh_H → Prop} (lv : List (Option Value)) (hl : lv_args 0 args = mh_al 0 lv) (hs : (lg_sl args).length ≤ 2) (hG : q_X9_city_0 (x_X9_city E d mc ms Post) lv [] h 0 0) : mh_M E d mc ms yX9_city args h Post := mh_M.of w_595 (by decide) (by decide) hl hs (b_X9_city_0 _ _ _ _ _ hG)
theorem dX9_together_0 : decode cX9_together 0 = .ok (.iload_n 1, 1) := by decide +kernel
theorem dX9_together_1 : decode cX9_together 1 = .ok (.iconst (-1), 1) := by decide +kernel
theorem dX9_together_2 : decode cX9_together 2 = .ok (.if_icmp .eq 13, 3) := by decide +kernel
theorem dX9_together_5 : decode cX9_together 5 = .ok (.iload_n 1, 1) := by decide +kernel
theorem dX9_together_6 : decode cX9_together 6 = .ok (.invokestatic 69, 3) := by decide +kernel
theorem dX9_together_9 : decode cX9_together 9 = .ok (.ifCond .ne 6, 3) := by decide +kernel
theorem dX9_together_12 : decode cX9_together 12 = .ok (.ldc 81, 2) := by decide +kernel
theorem dX9_together_14 : decode cX9_together 14 = .ok (.ireturn, 1) := by decide +kernel
theorem dX9_together_15 : decode cX9_together 15 = .ok (.aload_n 0, 1) := by decide +kernel
theorem dX9_together_16 : decode cX9_together 16 = .ok (.getfield 25, 3) := by decide +kernel
theorem dX9_together_19 : decode cX9_together 19 = .ok (.aload_n 0, 1) := by decide +kernel
theorem dX9_together_20 : decode cX9_together 20 = .ok (.getfield 12, 3) := by decide +kernel
theorem dX9_together_23 : decode cX9_together 23 = .ok (.aload_n 0, 1) := by decide +kernel
theorem dX9_together_24 : decode cX9_together 24 = .ok (.getfield 12, 3) := by decide +kernel
theorem dX9_together_27 : decode cX9_together 27 = .ok (.invokevirtual 209, 3) := by decide +kernel
theorem dX9_together_30 : decode cX9_together 30 = .ok (.invokevirtual 218, 3) := by decide +kernel
theorem dX9_together_33 : decode cX9_together 33 = .ok (.iload_n 1, 1) := by decide +kernel
theorem dX9_together_34 : decode cX9_together 34 = .ok (.iconst (-1), 1) := by decide +kernel
theorem dX9_together_35 : decode cX9_together 35 = .ok (.if_icmp .ne 13, 3) := by decide +kernel
theorem dX9_together_38 : decode cX9_together 38 = .ok (.aload_n 0, 1) := by decide +kernel
theorem dX9_together_39 : decode cX9_together 39 = .ok (.getfield 25, 3) := by decide +kernel
theorem dX9_together_42 : decode cX9_together 42 = .ok (.getfield 222, 3) := by decide +kernel
theorem dX9_together_45 : decode cX9_together 45 = .ok (.goto 11, 3) := by decide +kernel
theorem dX9_together_48 : decode cX9_together 48 = .ok (.aload_n 0, 1) := by decide +kernel
theorem dX9_together_49 : decode cX9_together 49 = .ok (.getfield 25, 3) := by decide +kernel
theorem dX9_together_52 : decode cX9_together 52 = .ok (.iload_n 1, 1) := by decide +kernel
theorem dX9_together_53 : decode cX9_together 53 = .ok (.invokevirtual 225, 3) := by decide +kernel
theorem dX9_together_56 : decode cX9_together 56 = .ok (.ireturn, 1) := by decide +kernel
abbrev x_X9_together (E : mh_E) (d mc ms : Nat) (Post : Option Value → mh_H → Prop) : mh_X := (E, yX9_together, cX9_together, 2, (some .int), d, mc, ms, Post)
def q_X9_together_56 (X : mh_X) : mh_PR := s_iret X
theorem b_X9_together_56 {E : mh_E} {d mc ms : Nat} {Post : Option Value → mh_H → Prop} : mh_S (x_X9_together E d mc ms Post) 56 (q_X9_together_56 (x_X9_together E d mc ms Post)) := sn_iret rfl dX9_together_56
def q_X9_together_15 (X : mh_X) : mh_PR := s_al 0 (s_gr 9 3 (s_al 0 (s_gr 9 0 (s_al 0 (s_gr 9 0 (s_cv X yX0_openSet 0 0 (s_cv X yX1_seek 1 2 (s_il 1 (s_push (.int (-1)) (s_if2 (fun x y => ¬ x = y) (s_al 0 (s_gr 9 3 (s_il 1 (s_cv X yX1_squareOf 1 1 (q_X9_together_56 X))))) (s_al 0 (s_gr 9 3 (s_gi 1 4 (q_X9_together_56 X))))))))))))))
theorem b_X9_together_15 {E : mh_E} {d mc ms : Nat} {Post : Option Value → mh_H → Prop} : mh_S (x_X9_together E d mc ms Post) 15 (q_X9_together_15 (x_X9_together E d mc ms Post)) := sn_aload_n dX9_together_15 rfl (sn_getr clX9 (by decide) w_337 dX9_together_16 (sn_aload_n dX9_together_19 rfl (sn_getr clX9 (by decide) w_334 dX9_together_20 (sn_aload_n dX9_together_23 rfl (sn_getr clX9 (by decide) w_334 dX9_together_24 (sn_cv w_600 w_601 w_602 w_57 rfl nm_X0_openSet dX9_together_27 (sn_cv w_616 w_617 w_618 w_62 rfl nm_X1_seek dX9_together_30 (sn_iload_n dX9_together_33 rfl (sn_iconst dX9_together_34 (by decide) (sn_icmp_ne (tgt := 48) dX9_together_35 (by decide) (sn_aload_n dX9_together_48 rfl (sn_getr clX9 (by decide) w_337 dX9_together_49 (sn_iload_n dX9_together_52 rfl (sn_cv w_645 w_646 w_647 w_62 rfl nm_X1_squareOf dX9_together_53 b_X9_together_56)))) (sn_aload_n dX9_together_38 rfl (sn_getr clX9 (by decide) w_337 dX9_together_39 (sn_geti clX1 (by decide) w_229 dX9_together_42 (sn_goto (tgt := 56) dX9_together_45 (by decide) (b_X9_together_56)))))))))))))))
def q_X9_together_0 (X : mh_X) : mh_PR := s_il 1 (s_push (.int (-1)) (s_if2 (fun x y => x = y) (q_X9_together_15 X) (s_il 1 (s_cs X yX9_isOne 1 (s_if1 (fun x => ¬ x = 0) (q_X9_together_15 X) (s_push (.int (-1000000001)) (s_iret X)))))))
theorem b_X9_together_0 {E : mh_E} {d mc ms : Nat} {Post : Option Value → mh_H → Prop} : mh_S (x_X9_together E d mc ms Post) 0 (q_X9_together_0 (x_X9_together E d mc ms Post)) := sn_iload_n dX9_together_0 rfl (sn_iconst dX9_together_1 (by decide) (sn_icmp_eq (tgt := 15) dX9_together_2 (by decide) (b_X9_together_15) (sn_iload_n dX9_together_5 rfl (sn_cs w_375 w_376 w_56 nm_X9_isOne dX9_together_6 (sn_if_ne (tgt := 15) dX9_together_9 (by decide) (b_X9_together_15) (sn_ldc dX9_together_12 w_387 (sn_iret rfl dX9_together_14)))))))
theorem m_X9_together {E : mh_E} {d mc ms : Nat} {args : List Value} {h : mh_H} {Post : Option Value → mh_H → Prop} (lv : List (Option Value)) (hl : lv_args 0 args = mh_al 0 lv) (hs : (lg_sl args).length ≤ 2) (hG : q_X9_together_0 (x_X9_together E d mc ms Post) lv [] h 0 0) : mh_M E d mc ms yX9_together args h Post := mh_M.of w_615 (by decide) (by decide) hl hs (b_X9_together_0 _ _ _ _ _ hG)
theorem dX9_clash_0 : decode cX9_clash 0 = .ok (.aload_n 0, 1) := by decide +kernel
theorem dX9_clash_1 : decode cX9_clash 1 = .ok (.iload_n 1, 1) := by decide +kernel
theorem dX9_clash_2 : decode cX9_clash 2 = .ok (.invokevirtual 86, 3) := by decide +kernel
theorem dX9_clash_5 : decode cX9_clash 5 = .ok (.ifCond .eq 16, 3) := by decide +kernel
theorem dX9_clash_8 : decode cX9_clash 8 = .ok (.aload_n 0, 1) := by decide +kernel
theorem dX9_clash_9 : decode cX9_clash 9 = .ok (.iload_n 2, 1) := by decide +kernel
theorem dX9_clash_10 : decode cX9_clash 10 = .ok (.invokevirtual 86, 3) := by decide +kernel
theorem dX9_clash_13 : decode cX9_clash 13 = .ok (.ifCond .eq 8, 3) := by decide +kernel
theorem dX9_clash_16 : decode cX9_clash 16 = .ok (.iload_n 1, 1) := by decide +kernel
theorem dX9_clash_17 : decode cX9_clash 17 = .ok (.iload_n 2, 1) := by decide +kernel
theorem dX9_clash_18 : decode cX9_clash 18 = .ok (.if_icmp .ne 6, 3) := by decide +kernel
theorem dX9_clash_21 : decode cX9_clash 21 = .ok (.ldc 81, 2) := by decide +kernel
theorem dX9_clash_23 : decode cX9_clash 23 = .ok (.ireturn, 1) := by decide +kernel
theorem dX9_clash_24 : decode cX9_clash 24 = .ok (.aload_n 0, 1) := by decide +kernel
theorem dX9_clash_25 : decode cX9_clash 25 = .ok (.getfield 25, 3) := by decide +kernel
theorem dX9_clash_28 : decode cX9_clash 28 = .ok (.aload_n 0, 1) := by decide +kernel
theorem dX9_clash_29 : decode cX9_clash 29 = .ok (.getfield 12, 3) := by decide +kernel
theorem dX9_clash_32 : decode cX9_clash 32 = .ok (.iconst 1, 1) := by decide +kernel
theorem dX9_clash_33 : decode cX9_clash 33 = .ok (.iload_n 1, 1) := by decide +kernel
theorem dX9_clash_34 : decode cX9_clash 34 = .ok (.ishl, 1) := by decide +kernel
theorem dX9_clash_35 : decode cX9_clash 35 = .ok (.iconst 1, 1) := by decide +kernel
theorem dX9_clash_36 : decode cX9_clash 36 = .ok (.iload_n 2, 1) := by decide +kernel
theorem dX9_clash_37 : decode cX9_clash 37 = .ok (.ishl, 1) := by decide +kernel
theorem dX9_clash_38 : decode cX9_clash 38 = .ok (.ior, 1) := by decide +kernel
theorem dX9_clash_39 : decode cX9_clash 39 = .ok (.invokevirtual 218, 3) := by decide +kernel
theorem dX9_clash_42 : decode cX9_clash 42 = .ok (.aload_n 0, 1) := by decide +kernel
theorem dX9_clash_43 : decode cX9_clash 43 = .ok (.getfield 25, 3) := by decide +kernel
theorem dX9_clash_46 : decode cX9_clash 46 = .ok (.getfield 222, 3) := by decide +kernel
theorem dX9_clash_49 : decode cX9_clash 49 = .ok (.iconst 2, 1) := by decide +kernel
theorem dX9_clash_50 : decode cX9_clash 50 = .ok (.if_icmp .ge 7, 3) := by decide +kernel
theorem dX9_clash_53 : decode cX9_clash 53 = .ok (.iconst 1, 1) := by decide +kernel
theorem dX9_clash_54 : decode cX9_clash 54 = .ok (.goto 4, 3) := by decide +kernel
theorem dX9_clash_57 : decode cX9_clash 57 = .ok (.iconst 0, 1) := by decide +kernel
theorem dX9_clash_58 : decode cX9_clash 58 = .ok (.ireturn, 1) := by decide +kernel
abbrev x_X9_clash (E : mh_E) (d mc ms : Nat) (Post : Option Value → mh_H → Prop) : mh_X := (E, yX9_clash, cX9_clash, 3, (some .int), d, mc, ms, Post)
def q_X9_clash_58 (X : mh_X) : mh_PR := s_iret X
theorem b_X9_clash_58 {E : mh_E} {d mc ms : Nat} {Post : Option Value → mh_H → Prop} : mh_S (x_X9_clash E d mc ms Post) 58 (q_X9_clash_58 (x_X9_clash E d mc ms Post)) := sn_iret rfl dX9_clash_58
def q_X9_clash_21 (X : mh_X) : mh_PR := s_push (.int (-1000000001)) (s_iret X)
theorem b_X9_clash_21 {E : mh_E} {d mc ms : Nat} {Post : Option Value → mh_H → Prop} : mh_S (x_X9_clash E d mc ms Post) 21 (q_X9_clash_21 (x_X9_clash E d mc ms Post)) := sn_ldc dX9_clash_21 w_387 (sn_iret rfl dX9_clash_23)
def q_X9_clash_0 (X : mh_X) : mh_PR := s_al 0 (s_il 1 (s_cv X yX9_isStone 9 1 (s_if1 (fun x => x = 0) (q_X9_clash_21 X) (s_al 0 (s_il 2 (s_cv X yX9_isStone 9 1 (s_if1 (fun x => x = 0) (q_X9_clash_21 X) (s_il 1 (s_il 2 (s_if2 (fun x y => ¬ x = y) (s_al 0 (s_gr 9 3 (s_al 0 (s_gr 9 0 (s_push (.int (1)) (s_il 1 (s_bin mh_shl (s_push (.int (1)) (s_il 2 (s_bin mh_shl (s_bin (fun x y => x ||| y) (s_cv X yX1_seek 1 2 (s_al 0 (s_gr 9 3 (s_gi 1 4 (s_push (.int (2)) (s_if2 (fun x y => y ≤ x) (s_push (.int (0)) (q_X9_clash_58 X)) (s_push (.int (1)) (q_X9_clash_58 X))))))))))))))))))) (q_X9_clash_21 X)))))))))))
theorem b_X9_clash_0 {E : mh_E} {d mc ms : Nat} {Post : Option Value → mh_H → Prop} : mh_S (x_X9_clash E d mc ms Post) 0 (q_X9_clash_0 (x_X9_clash E d mc ms Post)) := sn_aload_n dX9_clash_0 rfl (sn_iload_n dX9_clash_1 rfl (sn_cv w_398 w_400 w_0 w_56 rfl nm_X9_isStone dX9_clash_2 (sn_if_eq (tgt := 21) dX9_clash_5 (by decide) (b_X9_clash_21) (sn_aload_n dX9_clash_8 rfl (sn_iload_n dX9_clash_9 rfl (sn_cv w_398 w_400 w_0 w_56 rfl nm_X9_isStone dX9_clash_10 (sn_if_eq (tgt := 21) dX9_clash_13 (by decide) (b_X9_clash_21) (sn_iload_n dX9_clash_16 rfl (sn_iload_n dX9_clash_17 rfl (sn_icmp_ne (tgt := 24) dX9_clash_18 (by decide) (sn_aload_n dX9_clash_24 rfl (sn_getr clX9 (by decide) w_337 dX9_clash_25 (sn_aload_n dX9_clash_28 rfl (sn_getr clX9 (by decide) w_334 dX9_clash_29 (sn_iconst dX9_clash_32 (by decide) (sn_iload_n dX9_clash_33 rfl (sn_ishl dX9_clash_34 (sn_iconst dX9_clash_35 (by decide) (sn_iload_n dX9_clash_36 rfl (sn_ishl dX9_clash_37 (sn_ior dX9_clash_38 (sn_cv w_616 w_617 w_618 w_62 rfl nm_X1_seek dX9_clash_39 (sn_aload_n dX9_clash_42 rfl (sn_getr clX9 (by decide) w_337 dX9_clash_43 (sn_geti clX1 (by decide) w_229 dX9_clash_46 (sn_iconst dX9_clash_49 (by decide) (sn_icmp_ge (tgt := 57) dX9_clash_50 (by decide) (sn_iconst dX9_clash_57 (by decide) b_X9_clash_58) (sn_iconst dX9_clash_53 (by decide) (sn_goto (tgt := 58) dX9_clash_54 (by decide) (b_X9_clash_58)))))))))))))))))))) (b_X9_clash_21)))))))))))
theorem m_X9_clash {E : mh_E} {d mc ms : Nat} {args : List Value} {h : mh_H} {Post : Option Value → mh_H → Prop} (lv : List (Option Value)) (hl : lv_args 0 args = mh_al 0 lv) (hs : (lg_sl args).length ≤ 3) (hG : q_X9_clash_0 (x_X9_clash E d mc ms Post) lv [] h 0 0) : mh_M E d mc ms yX9_clash args h Post := mh_M.of w_653 (by decide) (by decide) hl hs (b_X9_clash_0 _ _ _ _ _ hG)
theorem dX9_behind_0 : decode cX9_behind 0 = .ok (.iload_n 1, 1) := by decide +kernel
theorem dX9_behind_1 : decode cX9_behind 1 = .ok (.ifCond .lt 19, 3) := by decide +kernel
theorem dX9_behind_4 : decode cX9_behind 4 = .ok (.iload_n 1, 1) := by decide +kernel
theorem dX9_behind_5 : decode cX9_behind 5 = .ok (.bipush 100, 2) := by decide +kernel
theorem dX9_behind_7 : decode cX9_behind 7 = .ok (.if_icmp .gt 13, 3) := by decide +kernel
theorem dX9_behind_10 : decode cX9_behind 10 = .ok (.iload_n 2, 1) := by decide +kernel
theorem dX9_behind_11 : decode cX9_behind 11 = .ok (.ifCond .lt 9, 3) := by decide +kernel
theorem dX9_behind_14 : decode cX9_behind 14 = .ok (.iload_n 2, 1) := by decide +kernel
theorem dX9_behind_15 : decode cX9_behind 15 = .ok (.bipush 8, 2) := by decide +kernel
theorem dX9_behind_17 : decode cX9_behind 17 = .ok (.if_icmp .le 6, 3) := by decide +kernel
theorem dX9_behind_20 : decode cX9_behind 20 = .ok (.ldc 81, 2) := by decide +kernel
theorem dX9_behind_22 : decode cX9_behind 22 = .ok (.ireturn, 1) := by decide +kernel
theorem dX9_behind_23 : decode cX9_behind 23 = .ok (.aload_n 0, 1) := by decide +kernel
theorem dX9_behind_24 : decode cX9_behind 24 = .ok (.getfield 19, 3) := by decide +kernel
theorem dX9_behind_27 : decode cX9_behind 27 = .ok (.aload_n 0, 1) := by decide +kernel
theorem dX9_behind_28 : decode cX9_behind 28 = .ok (.getfield 12, 3) := by decide +kernel
theorem dX9_behind_31 : decode cX9_behind 31 = .ok (.invokevirtual 226, 3) := by decide +kernel
theorem dX9_behind_34 : decode cX9_behind 34 = .ok (.iload_n 2, 1) := by decide +kernel
theorem dX9_behind_35 : decode cX9_behind 35 = .ok (.tableswitch 68 0 2 #[25, 34, 51], 25) := by decide +kernel
theorem dX9_behind_60 : decode cX9_behind 60 = .ok (.aload_n 0, 1) := by decide +kernel
theorem dX9_behind_61 : decode cX9_behind 61 = .ok (.getfield 19, 3) := by decide +kernel
theorem dX9_behind_64 : decode cX9_behind 64 = .ok (.iload_n 1, 1) := by decide +kernel
theorem dX9_behind_65 : decode cX9_behind 65 = .ok (.invokevirtual 230, 3) := by decide +kernel
theorem dX9_behind_68 : decode cX9_behind 68 = .ok (.ireturn, 1) := by decide +kernel
theorem dX9_behind_69 : decode cX9_behind 69 = .ok (.aload_n 0, 1) := by decide +kernel
theorem dX9_behind_70 : decode cX9_behind 70 = .ok (.getfield 19, 3) := by decide +kernel
theorem dX9_behind_73 : decode cX9_behind 73 = .ok (.iload_n 1, 1) := by decide +kernel
theorem dX9_behind_74 : decode cX9_behind 74 = .ok (.invokevirtual 197, 3) := by decide +kernel
theorem dX9_behind_77 : decode cX9_behind 77 = .ok (.pop, 1) := by decide +kernel
theorem dX9_behind_78 : decode cX9_behind 78 = .ok (.aload_n 0, 1) := by decide +kernel
theorem dX9_behind_79 : decode cX9_behind 79 = .ok (.getfield 19, 3) := by decide +kernel
theorem dX9_behind_82 : decode cX9_behind 82 = .ok (.getfield 203, 3) := by decide +kernel
theorem dX9_behind_85 : decode cX9_behind 85 = .ok (.ireturn, 1) := by decide +kernel
theorem dX9_behind_86 : decode cX9_behind 86 = .ok (.aload_n 0, 1) := by decide +kernel
theorem dX9_behind_87 : decode cX9_behind 87 = .ok (.getfield 19, 3) := by decide +kernel
theorem dX9_behind_90 : decode cX9_behind 90 = .ok (.iload_n 1, 1) := by decide +kernel
theorem dX9_behind_91 : decode cX9_behind 91 = .ok (.invokevirtual 197, 3) := by decide +kernel
theorem dX9_behind_94 : decode cX9_behind 94 = .ok (.pop, 1) := by decide +kernel
theorem dX9_behind_95 : decode cX9_behind 95 = .ok (.aload_n 0, 1) := by decide +kernel
theorem dX9_behind_96 : decode cX9_behind 96 = .ok (.getfield 19, 3) := by decide +kernel
theorem dX9_behind_99 : decode cX9_behind 99 = .ok (.getfield 200, 3) := by decide +kernel
theorem dX9_behind_102 : decode cX9_behind 102 = .ok (.ireturn, 1) := by decide +kernel
theorem dX9_behind_103 : decode cX9_behind 103 = .ok (.aload_n 0, 1) := by decide +kernel
theorem dX9_behind_104 : decode cX9_behind 104 = .ok (.getfield 19, 3) := by decide +kernel
theorem dX9_behind_107 : decode cX9_behind 107 = .ok (.iload_n 1, 1) := by decide +kernel
theorem dX9_behind_108 : decode cX9_behind 108 = .ok (.invokevirtual 233, 3) := by decide +kernel
theorem dX9_behind_111 : decode cX9_behind 111 = .ok (.aload_n 0, 1) := by decide +kernel
theorem dX9_behind_112 : decode cX9_behind 112 = .ok (.getfield 19, 3) := by decide +kernel
theorem dX9_behind_115 : decode cX9_behind 115 = .ok (.getfield 148, 3) := by decide +kernel
theorem dX9_behind_118 : decode cX9_behind 118 = .ok (.iload_n 2, 1) := by decide +kernel
theorem dX9_behind_119 : decode cX9_behind 119 = .ok (.iconst 3, 1) := by decide +kernel
theorem dX9_behind_120 : decode cX9_behind 120 = .ok (.isub, 1) := by decide +kernel
theorem dX9_behind_121 : decode cX9_behind 121 = .ok (.invokevirtual 157, 3) := by decide +kernel
theorem dX9_behind_124 : decode cX9_behind 124 = .ok (.ireturn, 1) := by decide +kernel
abbrev x_X9_behind (E : mh_E) (d mc ms : Nat) (Post : Option Value → mh_H → Prop) : mh_X := (E, yX9_behind, cX9_behind, 3, (some .int), d, mc, ms, Post)
def q_X9_behind_20 (X : mh_X) : mh_PR := s_push (.int (-1000000001)) (s_iret X)
theorem b_X9_behind_20 {E : mh_E} {d mc ms : Nat} {Post : Option Value → mh_H → Prop} : mh_S (x_X9_behind E d mc ms Post) 20 (q_X9_behind_20 (x_X9_behind E d mc ms Post)) := sn_ldc dX9_behind_20 w_387 (sn_iret rfl dX9_behind_22)
def q_X9_behind_0 (X : mh_X) : mh_PR := s_il 1 (s_if1 (fun x => x < 0) (q_X9_behind_20 X) (s_il 1 (s_push (.int (100)) (s_if2 (fun x y => y < x) (q_X9_behind_20 X) (s_il 2 (s_if1 (fun x => x < 0) (q_X9_behind_20 X) (s_il 2 (s_push (.int (8)) (s_if2 (fun x y => x ≤ y) (s_al 0 (s_gr 9 2 (s_al 0 (s_gr 9 0 (s_cv X yX0_become 0 1 (s_il 2 (s_sw [((0 : Int32), s_al 0 (s_gr 9 2 (s_il 1 (s_cv X yX0_fulfilledBehind 0 1 (s_iret X))))), ((1 : Int32), s_al 0 (s_gr 9 2 (s_il 1 (s_cv X yX0_passYears 0 1 (s_pop (s_al 0 (s_gr 9 2 (s_gi 0 7 (s_iret X))))))))), ((2 : Int32), s_al 0 (s_gr 9 2 (s_il 1 (s_cv X yX0_passYears 0 1 (s_pop (s_al 0 (s_gr 9 2 (s_gi 0 6 (s_iret X)))))))))] (s_al 0 (s_gr 9 2 (s_il 1 (s_cv X yX0_passUnpaid 0 1 (s_al 0 (s_gr 9 2 (s_gr 0 0 (s_il 2 (s_push (.int (3)) (s_bin (fun x y => x - y) (s_cv X yX3_rankOf 3 1 (s_iret X))))))))))))))))))) (q_X9_behind_20 X))))))))))
theorem b_X9_behind_0 {E : mh_E} {d mc ms : Nat} {Post : Option Value → mh_H → Prop} : mh_S (x_X9_behind E d mc ms Post) 0 (q_X9_behind_0 (x_X9_behind E d mc ms Post)) := sn_iload_n dX9_behind_0 rfl (sn_if_lt (tgt := 20) dX9_behind_1 (by decide) (b_X9_behind_20) (sn_iload_n dX9_behind_4 rfl (sn_bipush dX9_behind_5 (by decide) (sn_icmp_gt (tgt := 20) dX9_behind_7 (by decide) (b_X9_behind_20) (sn_iload_n dX9_behind_10 rfl (sn_if_lt (tgt := 20) dX9_behind_11 (by decide) (b_X9_behind_20) (sn_iload_n dX9_behind_14 rfl (sn_bipush dX9_behind_15 (by decide) (sn_icmp_le (tgt := 23) dX9_behind_17 (by decide) (sn_aload_n dX9_behind_23 rfl (sn_getr clX9 (by decide) w_336 dX9_behind_24 (sn_aload_n dX9_behind_27 rfl (sn_getr clX9 (by decide) w_334 dX9_behind_28 (sn_cv w_658 w_659 w_660 w_57 rfl nm_X0_become dX9_behind_31 (sn_iload_n dX9_behind_34 rfl (sn_table (tgt := 103) (ts := [(0, 25, 60), (1, 34, 69), (2, 51, 86)]) dX9_behind_35 (by decide +kernel) (by decide +kernel) (sw_cons (sn_aload_n dX9_behind_60 rfl (sn_getr clX9 (by decide) w_336 dX9_behind_61 (sn_iload_n dX9_behind_64 rfl (sn_cv w_676 w_677 w_678 w_57 rfl nm_X0_fulfilledBehind dX9_behind_65 (sn_iret rfl dX9_behind_68))))) (sw_cons (sn_aload_n dX9_behind_69 rfl (sn_getr clX9 (by decide) w_336 dX9_behind_70 (sn_iload_n dX9_behind_73 rfl (sn_cv w_570 w_571 w_572 w_57 rfl nm_X0_passYears dX9_behind_74 (sn_pop dX9_behind_77 (sn_aload_n dX9_behind_78 rfl (sn_getr clX9 (by decide) w_336 dX9_behind_79 (sn_geti clX0 (by decide) w_192 dX9_behind_82 (sn_iret rfl dX9_behind_85))))))))) (sw_cons (sn_aload_n dX9_behind_86 rfl (sn_getr clX9 (by decide) w_336 dX9_behind_87 (sn_iload_n dX9_behind_90 rfl (sn_cv w_570 w_571 w_572 w_57 rfl nm_X0_passYears dX9_behind_91 (sn_pop dX9_behind_94 (sn_aload_n dX9_behind_95 rfl (sn_getr clX9 (by decide) w_336 dX9_behind_96 (sn_geti clX0 (by decide) w_190 dX9_behind_99 (sn_iret rfl dX9_behind_102))))))))) sw_nil))) (by decide) (sn_aload_n dX9_behind_103 rfl (sn_getr clX9 (by decide) w_336 dX9_behind_104 (sn_iload_n dX9_behind_107 rfl (sn_cv w_686 w_681 w_682 w_57 rfl nm_X0_passUnpaid dX9_behind_108 (sn_aload_n dX9_behind_111 rfl (sn_getr clX9 (by decide) w_336 dX9_behind_112 (sn_getr clX0 (by decide) w_176 dX9_behind_115 (sn_iload_n dX9_behind_118 rfl (sn_iconst dX9_behind_119 (by decide) (sn_isub dX9_behind_120 (sn_cv w_521 w_522 w_523 w_58 rfl nm_X3_rankOf dX9_behind_121 (sn_iret rfl dX9_behind_124))))))))))))))))))) (b_X9_behind_20))))))))))
theorem m_X9_behind {E : mh_E} {d mc ms : Nat} {args : List Value} {h : mh_H} {Post : Option Value → mh_H → Prop} (lv : List (Option Value)) (hl : lv_args 0 args = mh_al 0 lv) (hs : (lg_sl args).length ≤ 3) (hG : q_X9_behind_0 (x_X9_behind E d mc ms Post) lv [] h 0 0) : mh_M E d mc ms yX9_behind args h Post := mh_M.of w_657 (by decide) (by decide) hl hs (b_X9_behind_0 _ _ _ _ _ hG)
theorem dX9_fulfils_0 : decode cX9_fulfils 0 = .ok (.aload_n 0, 1) := by decide +kernel
theorem dX9_fulfils_1 : decode cX9_fulfils 1 = .ok (.iload_n 1, 1) := by decide +kernel
theorem dX9_fulfils_2 : decode cX9_fulfils 2 = .ok (.invokevirtual 86, 3) := by decide +kernel
theorem dX9_fulfils_5 : decode cX9_fulfils 5 = .ok (.ifCond .ne 6, 3) := by decide +kernel
theorem dX9_fulfils_8 : decode cX9_fulfils 8 = .ok (.ldc 81, 2) := by decide +kernel
theorem dX9_fulfils_10 : decode cX9_fulfils 10 = .ok (.ireturn, 1) := by decide +kernel
theorem dX9_fulfils_11 : decode cX9_fulfils 11 = .ok (.aload_n 0, 1) := by decide +kernel
theorem dX9_fulfils_12 : decode cX9_fulfils 12 = .ok (.getfield 12, 3) := by decide +kernel
theorem dX9_fulfils_15 : decode cX9_fulfils 15 = .ok (.getfield 89, 3) := by decide +kernel
theorem dX9_fulfils_18 : decode cX9_fulfils 18 = .ok (.iload_n 1, 1) := by decide +kernel
theorem dX9_fulfils_19 : decode cX9_fulfils 19 = .ok (.aaload, 1) := by decide +kernel
theorem dX9_fulfils_20 : decode cX9_fulfils 20 = .ok (.astore_n 2, 1) := by decide +kernel
theorem dX9_fulfils_21 : decode cX9_fulfils 21 = .ok (.aload_n 2, 1) := by decide +kernel
theorem dX9_fulfils_22 : decode cX9_fulfils 22 = .ok (.invokevirtual 142, 3) := by decide +kernel
theorem dX9_fulfils_25 : decode cX9_fulfils 25 = .ok (.ifCond .eq 5, 3) := by decide +kernel
theorem dX9_fulfils_28 : decode cX9_fulfils 28 = .ok (.iconst 0, 1) := by decide +kernel
theorem dX9_fulfils_29 : decode cX9_fulfils 29 = .ok (.ireturn, 1) := by decide +kernel
theorem dX9_fulfils_30 : decode cX9_fulfils 30 = .ok (.aload_n 0, 1) := by decide +kernel
theorem dX9_fulfils_31 : decode cX9_fulfils 31 = .ok (.aload_n 2, 1) := by decide +kernel
theorem dX9_fulfils_32 : decode cX9_fulfils 32 = .ok (.sipush 200, 3) := by decide +kernel
theorem dX9_fulfils_35 : decode cX9_fulfils 35 = .ok (.invokevirtual 237, 3) := by decide +kernel
theorem dX9_fulfils_38 : decode cX9_fulfils 38 = .ok (.istore_n 3, 1) := by decide +kernel
theorem dX9_fulfils_39 : decode cX9_fulfils 39 = .ok (.iload_n 3, 1) := by decide +kernel
theorem dX9_fulfils_40 : decode cX9_fulfils 40 = .ok (.ldc 147, 2) := by decide +kernel
theorem dX9_fulfils_42 : decode cX9_fulfils 42 = .ok (.if_icmp .eq 21, 3) := by decide +kernel
theorem dX9_fulfils_45 : decode cX9_fulfils 45 = .ok (.aload_n 0, 1) := by decide +kernel
theorem dX9_fulfils_46 : decode cX9_fulfils 46 = .ok (.getfield 12, 3) := by decide +kernel
theorem dX9_fulfils_49 : decode cX9_fulfils 49 = .ok (.getfield 189, 3) := by decide +kernel
theorem dX9_fulfils_52 : decode cX9_fulfils 52 = .ok (.iload_n 3, 1) := by decide +kernel
theorem dX9_fulfils_53 : decode cX9_fulfils 53 = .ok (.iadd, 1) := by decide +kernel
theorem dX9_fulfils_54 : decode cX9_fulfils 54 = .ok (.iconst 1, 1) := by decide +kernel
theorem dX9_fulfils_55 : decode cX9_fulfils 55 = .ok (.isub, 1) := by decide +kernel
theorem dX9_fulfils_56 : decode cX9_fulfils 56 = .ok (.aload_n 2, 1) := by decide +kernel
theorem dX9_fulfils_57 : decode cX9_fulfils 57 = .ok (.getfield 107, 3) := by decide +kernel
theorem dX9_fulfils_60 : decode cX9_fulfils 60 = .ok (.if_icmp .le 8, 3) := by decide +kernel
theorem dX9_fulfils_63 : decode cX9_fulfils 63 = .ok (.ldc 147, 2) := by decide +kernel
theorem dX9_fulfils_65 : decode cX9_fulfils 65 = .ok (.goto 4, 3) := by decide +kernel
theorem dX9_fulfils_68 : decode cX9_fulfils 68 = .ok (.iload_n 3, 1) := by decide +kernel
theorem dX9_fulfils_69 : decode cX9_fulfils 69 = .ok (.ireturn, 1) := by decide +kernel
abbrev x_X9_fulfils (E : mh_E) (d mc ms : Nat) (Post : Option Value → mh_H → Prop) : mh_X := (E, yX9_fulfils, cX9_fulfils, 4, (some .int), d, mc, ms, Post)
def q_X9_fulfils_69 (X : mh_X) : mh_PR := s_iret X
theorem b_X9_fulfils_69 {E : mh_E} {d mc ms : Nat} {Post : Option Value → mh_H → Prop} : mh_S (x_X9_fulfils E d mc ms Post) 69 (q_X9_fulfils_69 (x_X9_fulfils E d mc ms Post)) := sn_iret rfl dX9_fulfils_69
def q_X9_fulfils_63 (X : mh_X) : mh_PR := s_push (.int (-1000000005)) (q_X9_fulfils_69 X)
theorem b_X9_fulfils_63 {E : mh_E} {d mc ms : Nat} {Post : Option Value → mh_H → Prop} : mh_S (x_X9_fulfils E d mc ms Post) 63 (q_X9_fulfils_63 (x_X9_fulfils E d mc ms Post)) := sn_ldc dX9_fulfils_63 w_511 (sn_goto (tgt := 69) dX9_fulfils_65 (by decide) (b_X9_fulfils_69))
def q_X9_fulfils_0 (X : mh_X) : mh_PR := s_al 0 (s_il 1 (s_cv X yX9_isStone 9 1 (s_if1 (fun x => ¬ x = 0) (s_al 0 (s_gr 9 0 (s_gr 0 1 (s_il 1 (s_aald 6 (s_as 2 (s_al 2 (s_cv X yX6_isFulfilled 6 0 (s_if1 (fun x => x = 0) (s_al 0 (s_al 2 (s_push (.int (200)) (s_cv X yX9_yearsUntilHolding 9 2 (s_is 3 (s_il 3 (s_push (.int (-1000000005)) (s_if2 (fun x y => x = y) (q_X9_fulfils_63 X) (s_al 0 (s_gr 9 0 (s_gi 0 8 (s_il 3 (s_bin (fun x y => x + y) (s_push (.int (1)) (s_bin (fun x y => x - y) (s_al 2 (s_gi 6 4 (s_if2 (fun x y => x ≤ y) (s_il 3 (q_X9_fulfils_69 X)) (q_X9_fulfils_63 X))))))))))))))))))) (s_push (.int (0)) (s_iret X))))))))))) (s_push (.int (-1000000001)) (s_iret X)))))
theorem b_X9_fulfils_0 {E : mh_E} {d mc ms : Nat} {Post : Option Value → mh_H → Prop} : mh_S (x_X9_fulfils E d mc ms Post) 0 (q_X9_fulfils_0 (x_X9_fulfils E d mc ms Post)) := sn_aload_n dX9_fulfils_0 rfl (sn_iload_n dX9_fulfils_1 rfl (sn_cv w_398 w_400 w_0 w_56 rfl nm_X9_isStone dX9_fulfils_2 (sn_if_ne (tgt := 11) dX9_fulfils_5 (by decide) (sn_aload_n dX9_fulfils_11 rfl (sn_getr clX9 (by decide) w_334 dX9_fulfils_12 (sn_getr clX0 (by decide) w_178 dX9_fulfils_15 (sn_iload_n dX9_fulfils_18 rfl (sn_aaload (by decide) rfl dX9_fulfils_19 (sn_astore_n dX9_fulfils_20 rfl (Nat.le_of_ble_eq_true rfl) (sn_aload_n dX9_fulfils_21 rfl (sn_cv w_506 w_507 w_508 w_61 rfl nm_X6_isFulfilled dX9_fulfils_22 (sn_if_eq (tgt := 30) dX9_fulfils_25 (by decide) (sn_aload_n dX9_fulfils_30 rfl (sn_aload_n dX9_fulfils_31 rfl (sn_sipush dX9_fulfils_32 (by decide) (sn_cv w_691 w_693 w_6 w_56 rfl nm_X9_yearsUntilHolding dX9_fulfils_35 (sn_istore_n dX9_fulfils_38 rfl (Nat.le_of_ble_eq_true rfl) (sn_iload_n dX9_fulfils_39 rfl (sn_ldc dX9_fulfils_40 w_511 (sn_icmp_eq (tgt := 63) dX9_fulfils_42 (by decide) (b_X9_fulfils_63) (sn_aload_n dX9_fulfils_45 rfl (sn_getr clX9 (by decide) w_334 dX9_fulfils_46 (sn_geti clX0 (by decide) w_194 dX9_fulfils_49 (sn_iload_n dX9_fulfils_52 rfl (sn_iadd dX9_fulfils_53 (sn_iconst dX9_fulfils_54 (by decide) (sn_isub dX9_fulfils_55 (sn_aload_n dX9_fulfils_56 rfl (sn_geti clX6 (by decide) w_157 dX9_fulfils_57 (sn_icmp_le (tgt := 68) dX9_fulfils_60 (by decide) (sn_iload_n dX9_fulfils_68 rfl b_X9_fulfils_69) (b_X9_fulfils_63))))))))))))))))))) (sn_iconst dX9_fulfils_28 (by decide) (sn_iret rfl dX9_fulfils_29))))))))))) (sn_ldc dX9_fulfils_8 w_387 (sn_iret rfl dX9_fulfils_10)))))
theorem m_X9_fulfils {E : mh_E} {d mc ms : Nat} {args : List Value} {h : mh_H} {Post : Option Value → mh_H → Prop} (lv : List (Option Value)) (hl : lv_args 0 args = mh_al 0 lv) (hs : (lg_sl args).length ≤ 4) (hG : q_X9_fulfils_0 (x_X9_fulfils E d mc ms Post) lv [] h 0 0) : mh_M E d mc ms yX9_fulfils args h Post := mh_M.of w_690 (by decide) (by decide) hl hs (b_X9_fulfils_0 _ _ _ _ _ hG)
theorem dX9_sent_0 : decode cX9_sent 0 = .ok (.iload_n 1, 1) := by decide +kernel
theorem dX9_sent_1 : decode cX9_sent 1 = .ok (.iconst 1, 1) := by decide +kernel
theorem dX9_sent_2 : decode cX9_sent 2 = .ok (.if_icmp .lt 18, 3) := by decide +kernel
theorem dX9_sent_5 : decode cX9_sent 5 = .ok (.iload_n 1, 1) := by decide +kernel
theorem dX9_sent_6 : decode cX9_sent 6 = .ok (.bipush 30, 2) := by decide +kernel
theorem dX9_sent_8 : decode cX9_sent 8 = .ok (.if_icmp .gt 12, 3) := by decide +kernel
theorem dX9_sent_11 : decode cX9_sent 11 = .ok (.iload_n 2, 1) := by decide +kernel
theorem dX9_sent_12 : decode cX9_sent 12 = .ok (.ifCond .lt 8, 3) := by decide +kernel
theorem dX9_sent_15 : decode cX9_sent 15 = .ok (.iload_n 2, 1) := by decide +kernel
theorem dX9_sent_16 : decode cX9_sent 16 = .ok (.iconst 2, 1) := by decide +kernel
theorem dX9_sent_17 : decode cX9_sent 17 = .ok (.if_icmp .le 6, 3) := by decide +kernel
theorem dX9_sent_20 : decode cX9_sent 20 = .ok (.ldc 81, 2) := by decide +kernel
theorem dX9_sent_22 : decode cX9_sent 22 = .ok (.ireturn, 1) := by decide +kernel
theorem dX9_sent_23 : decode cX9_sent 23 = .ok (.iconst (-1), 1) := by decide +kernel
theorem dX9_sent_24 : decode cX9_sent 24 = .ok (.istore_n 3, 1) := by decide +kernel
theorem dX9_sent_25 : decode cX9_sent 25 = .ok (.iconst 0, 1) := by decide +kernel
theorem dX9_sent_26 : decode cX9_sent 26 = .ok (.istore 4, 2) := by decide +kernel
theorem dX9_sent_28 : decode cX9_sent 28 = .ok (.iconst 0, 1) := by decide +kernel
theorem dX9_sent_29 : decode cX9_sent 29 = .ok (.istore 5, 2) := by decide +kernel
theorem dX9_sent_31 : decode cX9_sent 31 = .ok (.iload 5, 2) := by decide +kernel
theorem dX9_sent_33 : decode cX9_sent 33 = .ok (.bipush 24, 2) := by decide +kernel
theorem dX9_sent_35 : decode cX9_sent 35 = .ok (.if_icmp .ge 61, 3) := by decide +kernel
theorem dX9_sent_38 : decode cX9_sent 38 = .ok (.aload_n 0, 1) := by decide +kernel
theorem dX9_sent_39 : decode cX9_sent 39 = .ok (.getfield 19, 3) := by decide +kernel
theorem dX9_sent_42 : decode cX9_sent 42 = .ok (.aload_n 0, 1) := by decide +kernel
theorem dX9_sent_43 : decode cX9_sent 43 = .ok (.getfield 12, 3) := by decide +kernel
theorem dX9_sent_46 : decode cX9_sent 46 = .ok (.invokevirtual 226, 3) := by decide +kernel
theorem dX9_sent_49 : decode cX9_sent 49 = .ok (.aload_n 0, 1) := by decide +kernel
theorem dX9_sent_50 : decode cX9_sent 50 = .ok (.getfield 19, 3) := by decide +kernel
theorem dX9_sent_53 : decode cX9_sent 53 = .ok (.getfield 148, 3) := by decide +kernel
theorem dX9_sent_56 : decode cX9_sent 56 = .ok (.iload 5, 2) := by decide +kernel
theorem dX9_sent_58 : decode cX9_sent 58 = .ok (.iconst 4, 1) := by decide +kernel
theorem dX9_sent_59 : decode cX9_sent 59 = .ok (.idiv, 1) := by decide +kernel
theorem dX9_sent_60 : decode cX9_sent 60 = .ok (.iload 5, 2) := by decide +kernel
theorem dX9_sent_62 : decode cX9_sent 62 = .ok (.iconst 4, 1) := by decide +kernel
theorem dX9_sent_63 : decode cX9_sent 63 = .ok (.irem, 1) := by decide +kernel
theorem dX9_sent_64 : decode cX9_sent 64 = .ok (.invokevirtual 164, 3) := by decide +kernel
theorem dX9_sent_67 : decode cX9_sent 67 = .ok (.aload_n 0, 1) := by decide +kernel
theorem dX9_sent_68 : decode cX9_sent 68 = .ok (.getfield 19, 3) := by decide +kernel
theorem dX9_sent_71 : decode cX9_sent 71 = .ok (.iload_n 1, 1) := by decide +kernel
theorem dX9_sent_72 : decode cX9_sent 72 = .ok (.invokevirtual 230, 3) := by decide +kernel
theorem dX9_sent_75 : decode cX9_sent 75 = .ok (.istore 6, 2) := by decide +kernel
theorem dX9_sent_77 : decode cX9_sent 77 = .ok (.iload 6, 2) := by decide +kernel
theorem dX9_sent_79 : decode cX9_sent 79 = .ok (.iload_n 3, 1) := by decide +kernel
theorem dX9_sent_80 : decode cX9_sent 80 = .ok (.if_icmp .le 10, 3) := by decide +kernel
theorem dX9_sent_83 : decode cX9_sent 83 = .ok (.iload 6, 2) := by decide +kernel
theorem dX9_sent_85 : decode cX9_sent 85 = .ok (.istore_n 3, 1) := by decide +kernel
theorem dX9_sent_86 : decode cX9_sent 86 = .ok (.iload 5, 2) := by decide +kernel
theorem dX9_sent_88 : decode cX9_sent 88 = .ok (.istore 4, 2) := by decide +kernel
theorem dX9_sent_90 : decode cX9_sent 90 = .ok (.iinc 5 1, 3) := by decide +kernel
theorem dX9_sent_93 : decode cX9_sent 93 = .ok (.goto (-62), 3) := by decide +kernel
theorem dX9_sent_96 : decode cX9_sent 96 = .ok (.iload_n 2, 1) := by decide +kernel
theorem dX9_sent_97 : decode cX9_sent 97 = .ok (.iconst 2, 1) := by decide +kernel
theorem dX9_sent_98 : decode cX9_sent 98 = .ok (.if_icmp .ne 5, 3) := by decide +kernel
theorem dX9_sent_101 : decode cX9_sent 101 = .ok (.iload_n 3, 1) := by decide +kernel
theorem dX9_sent_102 : decode cX9_sent 102 = .ok (.ireturn, 1) := by decide +kernel
theorem dX9_sent_103 : decode cX9_sent 103 = .ok (.iload_n 2, 1) := by decide +kernel
theorem dX9_sent_104 : decode cX9_sent 104 = .ok (.ifCond .ne 10, 3) := by decide +kernel
theorem dX9_sent_107 : decode cX9_sent 107 = .ok (.iload 4, 2) := by decide +kernel
theorem dX9_sent_109 : decode cX9_sent 109 = .ok (.iconst 4, 1) := by decide +kernel
theorem dX9_sent_110 : decode cX9_sent 110 = .ok (.idiv, 1) := by decide +kernel
theorem dX9_sent_111 : decode cX9_sent 111 = .ok (.goto 7, 3) := by decide +kernel
theorem dX9_sent_114 : decode cX9_sent 114 = .ok (.iload 4, 2) := by decide +kernel
theorem dX9_sent_116 : decode cX9_sent 116 = .ok (.iconst 4, 1) := by decide +kernel
theorem dX9_sent_117 : decode cX9_sent 117 = .ok (.irem, 1) := by decide +kernel
theorem dX9_sent_118 : decode cX9_sent 118 = .ok (.ireturn, 1) := by decide +kernel
abbrev x_X9_sent (E : mh_E) (d mc ms : Nat) (Post : Option Value → mh_H → Prop) : mh_X := (E, yX9_sent, cX9_sent, 7, (some .int), d, mc, ms, Post)
def q_X9_sent_118 (X : mh_X) : mh_PR := s_iret X
theorem b_X9_sent_118 {E : mh_E} {d mc ms : Nat} {Post : Option Value → mh_H → Prop} : mh_S (x_X9_sent E d mc ms Post) 118 (q_X9_sent_118 (x_X9_sent E d mc ms Post)) := sn_iret rfl dX9_sent_118
def q_X9_sent_90 (X : mh_X) : mh_PR := s_inc 5 (1) (mh_G X 31)
theorem b_X9_sent_90 {E : mh_E} {d mc ms : Nat} {Post : Option Value → mh_H → Prop} : mh_S (x_X9_sent E d mc ms Post) 90 (q_X9_sent_90 (x_X9_sent E d mc ms Post)) := sn_iinc dX9_sent_90 (by decide) (Nat.le_of_ble_eq_true rfl) (sn_goto (tgt := 31) dX9_sent_93 (by decide) (mh_S.G))
def q_X9_sent_31 (X : mh_X) : mh_PR := s_il 5 (s_push (.int (24)) (s_if2 (fun x y => y ≤ x) (s_il 2 (s_push (.int (2)) (s_if2 (fun x y => ¬ x = y) (s_il 2 (s_if1 (fun x => ¬ x = 0) (s_il 4 (s_push (.int (4)) (s_div mh_rem (q_X9_sent_118 X)))) (s_il 4 (s_push (.int (4)) (s_div (fun x y => x / y) (q_X9_sent_118 X)))))) (s_il 3 (s_iret X))))) (s_al 0 (s_gr 9 2 (s_al 0 (s_gr 9 0 (s_cv X yX0_become 0 1 (s_al 0 (s_gr 9 2 (s_gr 0 0 (s_il 5 (s_push (.int (4)) (s_div (fun x y => x / y) (s_il 5 (s_push (.int (4)) (s_div mh_rem (s_cv X yX3_move 3 2 (s_al 0 (s_gr 9 2 (s_il 1 (s_cv X yX0_fulfilledBehind 0 1 (s_is 6 (s_il 6 (s_il 3 (s_if2 (fun x y => x ≤ y) (q_X9_sent_90 X) (s_il 6 (s_is 3 (s_il 5 (s_is 4 (q_X9_sent_90 X))))))))))))))))))))))))))))))
theorem b_X9_sent_31 {E : mh_E} {d mc ms : Nat} {Post : Option Value → mh_H → Prop} : mh_S (x_X9_sent E d mc ms Post) 31 (q_X9_sent_31 (x_X9_sent E d mc ms Post)) := sn_iload dX9_sent_31 (sn_bipush dX9_sent_33 (by decide) (sn_icmp_ge (tgt := 96) dX9_sent_35 (by decide) (sn_iload_n dX9_sent_96 rfl (sn_iconst dX9_sent_97 (by decide) (sn_icmp_ne (tgt := 103) dX9_sent_98 (by decide) (sn_iload_n dX9_sent_103 rfl (sn_if_ne (tgt := 114) dX9_sent_104 (by decide) (sn_iload dX9_sent_114 (sn_iconst dX9_sent_116 (by decide) (sn_irem dX9_sent_117 b_X9_sent_118))) (sn_iload dX9_sent_107 (sn_iconst dX9_sent_109 (by decide) (sn_idiv dX9_sent_110 (sn_goto (tgt := 118) dX9_sent_111 (by decide) (b_X9_sent_118))))))) (sn_iload_n dX9_sent_101 rfl (sn_iret rfl dX9_sent_102))))) (sn_aload_n dX9_sent_38 rfl (sn_getr clX9 (by decide) w_336 dX9_sent_39 (sn_aload_n dX9_sent_42 rfl (sn_getr clX9 (by decide) w_334 dX9_sent_43 (sn_cv w_658 w_659 w_660 w_57 rfl nm_X0_become dX9_sent_46 (sn_aload_n dX9_sent_49 rfl (sn_getr clX9 (by decide) w_336 dX9_sent_50 (sn_getr clX0 (by decide) w_176 dX9_sent_53 (sn_iload dX9_sent_56 (sn_iconst dX9_sent_58 (by decide) (sn_idiv dX9_sent_59 (sn_iload dX9_sent_60 (sn_iconst dX9_sent_62 (by decide) (sn_irem dX9_sent_63 (sn_cv w_530 w_531 w_532 w_58 rfl nm_X3_move dX9_sent_64 (sn_aload_n dX9_sent_67 rfl (sn_getr clX9 (by decide) w_336 dX9_sent_68 (sn_iload_n dX9_sent_71 rfl (sn_cv w_676 w_677 w_678 w_57 rfl nm_X0_fulfilledBehind dX9_sent_72 (sn_istore dX9_sent_75 (Nat.le_of_ble_eq_true rfl) (sn_iload dX9_sent_77 (sn_iload_n dX9_sent_79 rfl (sn_icmp_le (tgt := 90) dX9_sent_80 (by decide) (b_X9_sent_90) (sn_iload dX9_sent_83 (sn_istore_n dX9_sent_85 rfl (Nat.le_of_ble_eq_true rfl) (sn_iload dX9_sent_86 (sn_istore dX9_sent_88 (Nat.le_of_ble_eq_true rfl) b_X9_sent_90)))))))))))))))))))))))))))))
def q_X9_sent_20 (X : mh_X) : mh_PR := s_push (.int (-1000000001)) (s_iret X)
theorem b_X9_sent_20 {E : mh_E} {d mc ms : Nat} {Post : Option Value → mh_H → Prop} : mh_S (x_X9_sent E d mc ms Post) 20 (q_X9_sent_20 (x_X9_sent E d mc ms Post)) := sn_ldc dX9_sent_20 w_387 (sn_iret rfl dX9_sent_22)
def q_X9_sent_0 (X : mh_X) : mh_PR := s_il 1 (s_push (.int (1)) (s_if2 (fun x y => x < y) (q_X9_sent_20 X) (s_il 1 (s_push (.int (30)) (s_if2 (fun x y => y < x) (q_X9_sent_20 X) (s_il 2 (s_if1 (fun x => x < 0) (q_X9_sent_20 X) (s_il 2 (s_push (.int (2)) (s_if2 (fun x y => x ≤ y) (s_push (.int (-1)) (s_is 3 (s_push (.int (0)) (s_is 4 (s_push (.int (0)) (s_is 5 (mh_G X 31))))))) (q_X9_sent_20 X)))))))))))
theorem b_X9_sent_0 {E : mh_E} {d mc ms : Nat} {Post : Option Value → mh_H → Prop} : mh_S (x_X9_sent E d mc ms Post) 0 (q_X9_sent_0 (x_X9_sent E d mc ms Post)) := sn_iload_n dX9_sent_0 rfl (sn_iconst dX9_sent_1 (by decide) (sn_icmp_lt (tgt := 20) dX9_sent_2 (by decide) (b_X9_sent_20) (sn_iload_n dX9_sent_5 rfl (sn_bipush dX9_sent_6 (by decide) (sn_icmp_gt (tgt := 20) dX9_sent_8 (by decide) (b_X9_sent_20) (sn_iload_n dX9_sent_11 rfl (sn_if_lt (tgt := 20) dX9_sent_12 (by decide) (b_X9_sent_20) (sn_iload_n dX9_sent_15 rfl (sn_iconst dX9_sent_16 (by decide) (sn_icmp_le (tgt := 23) dX9_sent_17 (by decide) (sn_iconst dX9_sent_23 (by decide) (sn_istore_n dX9_sent_24 rfl (Nat.le_of_ble_eq_true rfl) (sn_iconst dX9_sent_25 (by decide) (sn_istore dX9_sent_26 (Nat.le_of_ble_eq_true rfl) (sn_iconst dX9_sent_28 (by decide) (sn_istore dX9_sent_29 (Nat.le_of_ble_eq_true rfl) mh_S.G)))))) (b_X9_sent_20)))))))))))
theorem m_X9_sent {E : mh_E} {d mc ms : Nat} {args : List Value} {h : mh_H} {Post : Option Value → mh_H → Prop} (lv : List (Option Value)) (hl : lv_args 0 args = mh_al 0 lv) (hs : (lg_sl args).length ≤ 7) (hG : q_X9_sent_0 (x_X9_sent E d mc ms Post) lv [] h 0 0) : mh_M E d mc ms yX9_sent args h Post := mh_M.of w_699 (by decide) (by decide) hl hs (b_X9_sent_0 _ _ _ _ _ hG)
theorem dX9_raised_0 : decode cX9_raised 0 = .ok (.iload_n 1, 1) := by decide +kernel
theorem dX9_raised_1 : decode cX9_raised 1 = .ok (.iconst 1, 1) := by decide +kernel
theorem dX9_raised_2 : decode cX9_raised 2 = .ok (.if_icmp .lt 18, 3) := by decide +kernel
theorem dX9_raised_5 : decode cX9_raised 5 = .ok (.iload_n 1, 1) := by decide +kernel
theorem dX9_raised_6 : decode cX9_raised 6 = .ok (.bipush 60, 2) := by decide +kernel
theorem dX9_raised_8 : decode cX9_raised 8 = .ok (.if_icmp .gt 12, 3) := by decide +kernel
theorem dX9_raised_11 : decode cX9_raised 11 = .ok (.iload_n 2, 1) := by decide +kernel
theorem dX9_raised_12 : decode cX9_raised 12 = .ok (.ifCond .lt 8, 3) := by decide +kernel
theorem dX9_raised_15 : decode cX9_raised 15 = .ok (.iload_n 2, 1) := by decide +kernel
theorem dX9_raised_16 : decode cX9_raised 16 = .ok (.iconst 1, 1) := by decide +kernel
theorem dX9_raised_17 : decode cX9_raised 17 = .ok (.if_icmp .le 6, 3) := by decide +kernel
theorem dX9_raised_20 : decode cX9_raised 20 = .ok (.ldc 81, 2) := by decide +kernel
theorem dX9_raised_22 : decode cX9_raised 22 = .ok (.ireturn, 1) := by decide +kernel
theorem dX9_raised_23 : decode cX9_raised 23 = .ok (.iconst (-1), 1) := by decide +kernel
theorem dX9_raised_24 : decode cX9_raised 24 = .ok (.istore_n 3, 1) := by decide +kernel
theorem dX9_raised_25 : decode cX9_raised 25 = .ok (.iconst 0, 1) := by decide +kernel
theorem dX9_raised_26 : decode cX9_raised 26 = .ok (.istore 4, 2) := by decide +kernel
theorem dX9_raised_28 : decode cX9_raised 28 = .ok (.iconst 0, 1) := by decide +kernel
theorem dX9_raised_29 : decode cX9_raised 29 = .ok (.istore 5, 2) := by decide +kernel
theorem dX9_raised_31 : decode cX9_raised 31 = .ok (.iload 5, 2) := by decide +kernel
theorem dX9_raised_33 : decode cX9_raised 33 = .ok (.bipush 6, 2) := by decide +kernel
theorem dX9_raised_35 : decode cX9_raised 35 = .ok (.if_icmp .ge 74, 3) := by decide +kernel
theorem dX9_raised_38 : decode cX9_raised 38 = .ok (.aload_n 0, 1) := by decide +kernel
theorem dX9_raised_39 : decode cX9_raised 39 = .ok (.getfield 19, 3) := by decide +kernel
theorem dX9_raised_42 : decode cX9_raised 42 = .ok (.aload_n 0, 1) := by decide +kernel
theorem dX9_raised_43 : decode cX9_raised 43 = .ok (.getfield 12, 3) := by decide +kernel
theorem dX9_raised_46 : decode cX9_raised 46 = .ok (.invokevirtual 226, 3) := by decide +kernel
theorem dX9_raised_49 : decode cX9_raised 49 = .ok (.aload_n 0, 1) := by decide +kernel
theorem dX9_raised_50 : decode cX9_raised 50 = .ok (.getfield 19, 3) := by decide +kernel
theorem dX9_raised_53 : decode cX9_raised 53 = .ok (.getfield 148, 3) := by decide +kernel
theorem dX9_raised_56 : decode cX9_raised 56 = .ok (.iload 5, 2) := by decide +kernel
theorem dX9_raised_58 : decode cX9_raised 58 = .ok (.bipush 9, 2) := by decide +kernel
theorem dX9_raised_60 : decode cX9_raised 60 = .ok (.aload_n 0, 1) := by decide +kernel
theorem dX9_raised_61 : decode cX9_raised 61 = .ok (.getfield 19, 3) := by decide +kernel
theorem dX9_raised_64 : decode cX9_raised 64 = .ok (.getfield 148, 3) := by decide +kernel
theorem dX9_raised_67 : decode cX9_raised 67 = .ok (.iload 5, 2) := by decide +kernel
theorem dX9_raised_69 : decode cX9_raised 69 = .ok (.invokevirtual 157, 3) := by decide +kernel
theorem dX9_raised_72 : decode cX9_raised 72 = .ok (.iconst 1, 1) := by decide +kernel
theorem dX9_raised_73 : decode cX9_raised 73 = .ok (.iadd, 1) := by decide +kernel
theorem dX9_raised_74 : decode cX9_raised 74 = .ok (.invokestatic 192, 3) := by decide +kernel
theorem dX9_raised_77 : decode cX9_raised 77 = .ok (.invokevirtual 168, 3) := by decide +kernel
theorem dX9_raised_80 : decode cX9_raised 80 = .ok (.aload_n 0, 1) := by decide +kernel
theorem dX9_raised_81 : decode cX9_raised 81 = .ok (.getfield 19, 3) := by decide +kernel
theorem dX9_raised_84 : decode cX9_raised 84 = .ok (.iload_n 1, 1) := by decide +kernel
theorem dX9_raised_85 : decode cX9_raised 85 = .ok (.invokevirtual 230, 3) := by decide +kernel
theorem dX9_raised_88 : decode cX9_raised 88 = .ok (.istore 6, 2) := by decide +kernel
theorem dX9_raised_90 : decode cX9_raised 90 = .ok (.iload 6, 2) := by decide +kernel
theorem dX9_raised_92 : decode cX9_raised 92 = .ok (.iload_n 3, 1) := by decide +kernel
theorem dX9_raised_93 : decode cX9_raised 93 = .ok (.if_icmp .le 10, 3) := by decide +kernel
theorem dX9_raised_96 : decode cX9_raised 96 = .ok (.iload 6, 2) := by decide +kernel
theorem dX9_raised_98 : decode cX9_raised 98 = .ok (.istore_n 3, 1) := by decide +kernel
theorem dX9_raised_99 : decode cX9_raised 99 = .ok (.iload 5, 2) := by decide +kernel
theorem dX9_raised_101 : decode cX9_raised 101 = .ok (.istore 4, 2) := by decide +kernel
theorem dX9_raised_103 : decode cX9_raised 103 = .ok (.iinc 5 1, 3) := by decide +kernel
theorem dX9_raised_106 : decode cX9_raised 106 = .ok (.goto (-75), 3) := by decide +kernel
theorem dX9_raised_109 : decode cX9_raised 109 = .ok (.iload_n 2, 1) := by decide +kernel
theorem dX9_raised_110 : decode cX9_raised 110 = .ok (.ifCond .ne 8, 3) := by decide +kernel
theorem dX9_raised_113 : decode cX9_raised 113 = .ok (.iload 4, 2) := by decide +kernel
theorem dX9_raised_115 : decode cX9_raised 115 = .ok (.goto 4, 3) := by decide +kernel
theorem dX9_raised_118 : decode cX9_raised 118 = .ok (.iload_n 3, 1) := by decide +kernel
theorem dX9_raised_119 : decode cX9_raised 119 = .ok (.ireturn, 1) := by decide +kernel
abbrev x_X9_raised (E : mh_E) (d mc ms : Nat) (Post : Option Value → mh_H → Prop) : mh_X := (E, yX9_raised, cX9_raised, 7, (some .int), d, mc, ms, Post)
def q_X9_raised_119 (X : mh_X) : mh_PR := s_iret X
theorem b_X9_raised_119 {E : mh_E} {d mc ms : Nat} {Post : Option Value → mh_H → Prop} : mh_S (x_X9_raised E d mc ms Post) 119 (q_X9_raised_119 (x_X9_raised E d mc ms Post)) := sn_iret rfl dX9_raised_119
def q_X9_raised_103 (X : mh_X) : mh_PR := s_inc 5 (1) (mh_G X 31)
theorem b_X9_raised_103 {E : mh_E} {d mc ms : Nat} {Post : Option Value → mh_H → Prop} : mh_S (x_X9_raised E d mc ms Post) 103 (q_X9_raised_103 (x_X9_raised E d mc ms Post)) := sn_iinc dX9_raised_103 (by decide) (Nat.le_of_ble_eq_true rfl) (sn_goto (tgt := 31) dX9_raised_106 (by decide) (mh_S.G))
def q_X9_raised_31 (X : mh_X) : mh_PR := s_il 5 (s_push (.int (6)) (s_if2 (fun x y => y ≤ x) (s_il 2 (s_if1 (fun x => ¬ x = 0) (s_il 3 (q_X9_raised_119 X)) (s_il 4 (q_X9_raised_119 X)))) (s_al 0 (s_gr 9 2 (s_al 0 (s_gr 9 0 (s_cv X yX0_become 0 1 (s_al 0 (s_gr 9 2 (s_gr 0 0 (s_il 5 (s_push (.int (9)) (s_al 0 (s_gr 9 2 (s_gr 0 0 (s_il 5 (s_cv X yX3_rankOf 3 1 (s_push (.int (1)) (s_bin (fun x y => x + y) (s_mm X (fun x y => if y < x then y else x) (s_cv X yX3_promote 3 2 (s_al 0 (s_gr 9 2 (s_il 1 (s_cv X yX0_fulfilledBehind 0 1 (s_is 6 (s_il 6 (s_il 3 (s_if2 (fun x y => x ≤ y) (q_X9_raised_103 X) (s_il 6 (s_is 3 (s_il 5 (s_is 4 (q_X9_raised_103 X))))))))))))))))))))))))))))))))))
theorem b_X9_raised_31 {E : mh_E} {d mc ms : Nat} {Post : Option Value → mh_H → Prop} : mh_S (x_X9_raised E d mc ms Post) 31 (q_X9_raised_31 (x_X9_raised E d mc ms Post)) := sn_iload dX9_raised_31 (sn_bipush dX9_raised_33 (by decide) (sn_icmp_ge (tgt := 109) dX9_raised_35 (by decide) (sn_iload_n dX9_raised_109 rfl (sn_if_ne (tgt := 118) dX9_raised_110 (by decide) (sn_iload_n dX9_raised_118 rfl b_X9_raised_119) (sn_iload dX9_raised_113 (sn_goto (tgt := 119) dX9_raised_115 (by decide) (b_X9_raised_119))))) (sn_aload_n dX9_raised_38 rfl (sn_getr clX9 (by decide) w_336 dX9_raised_39 (sn_aload_n dX9_raised_42 rfl (sn_getr clX9 (by decide) w_334 dX9_raised_43 (sn_cv w_658 w_659 w_660 w_57 rfl nm_X0_become dX9_raised_46 (sn_aload_n dX9_raised_49 rfl (sn_getr clX9 (by decide) w_336 dX9_raised_50 (sn_getr clX0 (by decide) w_176 dX9_raised_53 (sn_iload dX9_raised_56 (sn_bipush dX9_raised_58 (by decide) (sn_aload_n dX9_raised_60 rfl (sn_getr clX9 (by decide) w_336 dX9_raised_61 (sn_getr clX0 (by decide) w_176 dX9_raised_64 (sn_iload dX9_raised_67 (sn_cv w_521 w_522 w_523 w_58 rfl nm_X3_rankOf dX9_raised_69 (sn_iconst dX9_raised_72 (by decide) (sn_iadd dX9_raised_73 (sn_mmin w_569 w_456 w_67 w_math_min dX9_raised_74 (sn_cv w_534 w_535 w_536 w_58 rfl nm_X3_promote dX9_raised_77 (sn_aload_n dX9_raised_80 rfl (sn_getr clX9 (by decide) w_336 dX9_raised_81 (sn_iload_n dX9_raised_84 rfl (sn_cv w_676 w_677 w_678 w_57 rfl nm_X0_fulfilledBehind dX9_raised_85 (sn_istore dX9_raised_88 (Nat.le_of_ble_eq_true rfl) (sn_iload dX9_raised_90 (sn_iload_n dX9_raised_92 rfl (sn_icmp_le (tgt := 103) dX9_raised_93 (by decide) (b_X9_raised_103) (sn_iload dX9_raised_96 (sn_istore_n dX9_raised_98 rfl (Nat.le_of_ble_eq_true rfl) (sn_iload dX9_raised_99 (sn_istore dX9_raised_101 (Nat.le_of_ble_eq_true rfl) b_X9_raised_103)))))))))))))))))))))))))))))))))
def q_X9_raised_20 (X : mh_X) : mh_PR := s_push (.int (-1000000001)) (s_iret X)
theorem b_X9_raised_20 {E : mh_E} {d mc ms : Nat} {Post : Option Value → mh_H → Prop} : mh_S (x_X9_raised E d mc ms Post) 20 (q_X9_raised_20 (x_X9_raised E d mc ms Post)) := sn_ldc dX9_raised_20 w_387 (sn_iret rfl dX9_raised_22)
def q_X9_raised_0 (X : mh_X) : mh_PR := s_il 1 (s_push (.int (1)) (s_if2 (fun x y => x < y) (q_X9_raised_20 X) (s_il 1 (s_push (.int (60)) (s_if2 (fun x y => y < x) (q_X9_raised_20 X) (s_il 2 (s_if1 (fun x => x < 0) (q_X9_raised_20 X) (s_il 2 (s_push (.int (1)) (s_if2 (fun x y => x ≤ y) (s_push (.int (-1)) (s_is 3 (s_push (.int (0)) (s_is 4 (s_push (.int (0)) (s_is 5 (mh_G X 31))))))) (q_X9_raised_20 X)))))))))))
theorem b_X9_raised_0 {E : mh_E} {d mc ms : Nat} {Post : Option Value → mh_H → Prop} : mh_S (x_X9_raised E d mc ms Post) 0 (q_X9_raised_0 (x_X9_raised E d mc ms Post)) := sn_iload_n dX9_raised_0 rfl (sn_iconst dX9_raised_1 (by decide) (sn_icmp_lt (tgt := 20) dX9_raised_2 (by decide) (b_X9_raised_20) (sn_iload_n dX9_raised_5 rfl (sn_bipush dX9_raised_6 (by decide) (sn_icmp_gt (tgt := 20) dX9_raised_8 (by decide) (b_X9_raised_20) (sn_iload_n dX9_raised_11 rfl (sn_if_lt (tgt := 20) dX9_raised_12 (by decide) (b_X9_raised_20) (sn_iload_n dX9_raised_15 rfl (sn_iconst dX9_raised_16 (by decide) (sn_icmp_le (tgt := 23) dX9_raised_17 (by decide) (sn_iconst dX9_raised_23 (by decide) (sn_istore_n dX9_raised_24 rfl (Nat.le_of_ble_eq_true rfl) (sn_iconst dX9_raised_25 (by decide) (sn_istore dX9_raised_26 (Nat.le_of_ble_eq_true rfl) (sn_iconst dX9_raised_28 (by decide) (sn_istore dX9_raised_29 (Nat.le_of_ble_eq_true rfl) mh_S.G)))))) (b_X9_raised_20)))))))))))
theorem m_X9_raised {E : mh_E} {d mc ms : Nat} {args : List Value} {h : mh_H} {Post : Option Value → mh_H → Prop} (lv : List (Option Value)) (hl : lv_args 0 args = mh_al 0 lv) (hs : (lg_sl args).length ≤ 7) (hG : q_X9_raised_0 (x_X9_raised E d mc ms Post) lv [] h 0 0) : mh_M E d mc ms yX9_raised args h Post := mh_M.of w_703 (by decide) (by decide) hl hs (b_X9_raised_0 _ _ _ _ _ hG)
theorem dX9_scrap_0 : decode cX9_scrap 0 = .ok (.iload_n 1, 1) := by decide +kernel
theorem dX9_scrap_1 : decode cX9_scrap 1 = .ok (.iconst 1, 1) := by decide +kernel
theorem dX9_scrap_2 : decode cX9_scrap 2 = .ok (.if_icmp .lt 18, 3) := by decide +kernel
theorem dX9_scrap_5 : decode cX9_scrap 5 = .ok (.iload_n 1, 1) := by decide +kernel
theorem dX9_scrap_6 : decode cX9_scrap 6 = .ok (.bipush 60, 2) := by decide +kernel
theorem dX9_scrap_8 : decode cX9_scrap 8 = .ok (.if_icmp .gt 12, 3) := by decide +kernel
theorem dX9_scrap_11 : decode cX9_scrap 11 = .ok (.iload_n 2, 1) := by decide +kernel
theorem dX9_scrap_12 : decode cX9_scrap 12 = .ok (.ifCond .lt 8, 3) := by decide +kernel
theorem dX9_scrap_15 : decode cX9_scrap 15 = .ok (.iload_n 2, 1) := by decide +kernel
theorem dX9_scrap_16 : decode cX9_scrap 16 = .ok (.iconst 1, 1) := by decide +kernel
theorem dX9_scrap_17 : decode cX9_scrap 17 = .ok (.if_icmp .le 6, 3) := by decide +kernel
theorem dX9_scrap_20 : decode cX9_scrap 20 = .ok (.ldc 81, 2) := by decide +kernel
theorem dX9_scrap_22 : decode cX9_scrap 22 = .ok (.ireturn, 1) := by decide +kernel
theorem dX9_scrap_23 : decode cX9_scrap 23 = .ok (.aload_n 0, 1) := by decide +kernel
theorem dX9_scrap_24 : decode cX9_scrap 24 = .ok (.getfield 12, 3) := by decide +kernel
theorem dX9_scrap_27 : decode cX9_scrap 27 = .ok (.getfield 180, 3) := by decide +kernel
theorem dX9_scrap_30 : decode cX9_scrap 30 = .ok (.ifCond .ne 6, 3) := by decide +kernel
theorem dX9_scrap_33 : decode cX9_scrap 33 = .ok (.ldc 147, 2) := by decide +kernel
theorem dX9_scrap_35 : decode cX9_scrap 35 = .ok (.ireturn, 1) := by decide +kernel
theorem dX9_scrap_36 : decode cX9_scrap 36 = .ok (.aload_n 0, 1) := by decide +kernel
theorem dX9_scrap_37 : decode cX9_scrap 37 = .ok (.iload_n 1, 1) := by decide +kernel
theorem dX9_scrap_38 : decode cX9_scrap 38 = .ok (.invokevirtual 241, 3) := by decide +kernel
theorem dX9_scrap_41 : decode cX9_scrap 41 = .ok (.iconst 0, 1) := by decide +kernel
theorem dX9_scrap_42 : decode cX9_scrap 42 = .ok (.istore_n 3, 1) := by decide +kernel
theorem dX9_scrap_43 : decode cX9_scrap 43 = .ok (.aload_n 0, 1) := by decide +kernel
theorem dX9_scrap_44 : decode cX9_scrap 44 = .ok (.getfield 12, 3) := by decide +kernel
theorem dX9_scrap_47 : decode cX9_scrap 47 = .ok (.getfield 200, 3) := by decide +kernel
theorem dX9_scrap_50 : decode cX9_scrap 50 = .ok (.istore 4, 2) := by decide +kernel
theorem dX9_scrap_52 : decode cX9_scrap 52 = .ok (.iconst 0, 1) := by decide +kernel
theorem dX9_scrap_53 : decode cX9_scrap 53 = .ok (.istore 5, 2) := by decide +kernel
theorem dX9_scrap_55 : decode cX9_scrap 55 = .ok (.iload 5, 2) := by decide +kernel
theorem dX9_scrap_57 : decode cX9_scrap 57 = .ok (.aload_n 0, 1) := by decide +kernel
theorem dX9_scrap_58 : decode cX9_scrap 58 = .ok (.getfield 12, 3) := by decide +kernel
theorem dX9_scrap_61 : decode cX9_scrap 61 = .ok (.getfield 180, 3) := by decide +kernel
theorem dX9_scrap_64 : decode cX9_scrap 64 = .ok (.if_icmp .ge 47, 3) := by decide +kernel
theorem dX9_scrap_67 : decode cX9_scrap 67 = .ok (.iload 5, 2) := by decide +kernel
theorem dX9_scrap_69 : decode cX9_scrap 69 = .ok (.bipush 10, 2) := by decide +kernel
theorem dX9_scrap_71 : decode cX9_scrap 71 = .ok (.if_icmp .ge 40, 3) := by decide +kernel
theorem dX9_scrap_74 : decode cX9_scrap 74 = .ok (.iload 4, 2) := by decide +kernel
theorem dX9_scrap_76 : decode cX9_scrap 76 = .ok (.aload_n 0, 1) := by decide +kernel
theorem dX9_scrap_77 : decode cX9_scrap 77 = .ok (.getfield 52, 3) := by decide +kernel
theorem dX9_scrap_80 : decode cX9_scrap 80 = .ok (.iload 5, 2) := by decide +kernel
theorem dX9_scrap_82 : decode cX9_scrap 82 = .ok (.iaload, 1) := by decide +kernel
theorem dX9_scrap_83 : decode cX9_scrap 83 = .ok (.iadd, 1) := by decide +kernel
theorem dX9_scrap_84 : decode cX9_scrap 84 = .ok (.istore 4, 2) := by decide +kernel
theorem dX9_scrap_86 : decode cX9_scrap 86 = .ok (.aload_n 0, 1) := by decide +kernel
theorem dX9_scrap_87 : decode cX9_scrap 87 = .ok (.getfield 52, 3) := by decide +kernel
theorem dX9_scrap_90 : decode cX9_scrap 90 = .ok (.iload 5, 2) := by decide +kernel
theorem dX9_scrap_92 : decode cX9_scrap 92 = .ok (.iaload, 1) := by decide +kernel
theorem dX9_scrap_93 : decode cX9_scrap 93 = .ok (.aload_n 0, 1) := by decide +kernel
theorem dX9_scrap_94 : decode cX9_scrap 94 = .ok (.getfield 52, 3) := by decide +kernel
theorem dX9_scrap_97 : decode cX9_scrap 97 = .ok (.iload_n 3, 1) := by decide +kernel
theorem dX9_scrap_98 : decode cX9_scrap 98 = .ok (.iaload, 1) := by decide +kernel
theorem dX9_scrap_99 : decode cX9_scrap 99 = .ok (.if_icmp .le 6, 3) := by decide +kernel
theorem dX9_scrap_102 : decode cX9_scrap 102 = .ok (.iload 5, 2) := by decide +kernel
theorem dX9_scrap_104 : decode cX9_scrap 104 = .ok (.istore_n 3, 1) := by decide +kernel
theorem dX9_scrap_105 : decode cX9_scrap 105 = .ok (.iinc 5 1, 3) := by decide +kernel
theorem dX9_scrap_108 : decode cX9_scrap 108 = .ok (.goto (-53), 3) := by decide +kernel
theorem dX9_scrap_111 : decode cX9_scrap 111 = .ok (.iload_n 2, 1) := by decide +kernel
theorem dX9_scrap_112 : decode cX9_scrap 112 = .ok (.ifCond .ne 7, 3) := by decide +kernel
theorem dX9_scrap_115 : decode cX9_scrap 115 = .ok (.iload_n 3, 1) := by decide +kernel
theorem dX9_scrap_116 : decode cX9_scrap 116 = .ok (.goto 12, 3) := by decide +kernel
theorem dX9_scrap_119 : decode cX9_scrap 119 = .ok (.iload 4, 2) := by decide +kernel
theorem dX9_scrap_121 : decode cX9_scrap 121 = .ok (.aload_n 0, 1) := by decide +kernel
theorem dX9_scrap_122 : decode cX9_scrap 122 = .ok (.getfield 52, 3) := by decide +kernel
theorem dX9_scrap_125 : decode cX9_scrap 125 = .ok (.iload_n 3, 1) := by decide +kernel
theorem dX9_scrap_126 : decode cX9_scrap 126 = .ok (.iaload, 1) := by decide +kernel
theorem dX9_scrap_127 : decode cX9_scrap 127 = .ok (.isub, 1) := by decide +kernel
theorem dX9_scrap_128 : decode cX9_scrap 128 = .ok (.ireturn, 1) := by decide +kernel
abbrev x_X9_scrap (E : mh_E) (d mc ms : Nat) (Post : Option Value → mh_H → Prop) : mh_X := (E, yX9_scrap, cX9_scrap, 6, (some .int), d, mc, ms, Post)
def q_X9_scrap_128 (X : mh_X) : mh_PR := s_iret X
theorem b_X9_scrap_128 {E : mh_E} {d mc ms : Nat} {Post : Option Value → mh_H → Prop} : mh_S (x_X9_scrap E d mc ms Post) 128 (q_X9_scrap_128 (x_X9_scrap E d mc ms Post)) := sn_iret rfl dX9_scrap_128
def q_X9_scrap_111 (X : mh_X) : mh_PR := s_il 2 (s_if1 (fun x => ¬ x = 0) (s_il 4 (s_al 0 (s_gr 9 8 (s_il 3 (s_ald 0 (s_bin (fun x y => x - y) (q_X9_scrap_128 X))))))) (s_il 3 (q_X9_scrap_128 X)))
theorem b_X9_scrap_111 {E : mh_E} {d mc ms : Nat} {Post : Option Value → mh_H → Prop} : mh_S (x_X9_scrap E d mc ms Post) 111 (q_X9_scrap_111 (x_X9_scrap E d mc ms Post)) := sn_iload_n dX9_scrap_111 rfl (sn_if_ne (tgt := 119) dX9_scrap_112 (by decide) (sn_iload dX9_scrap_119 (sn_aload_n dX9_scrap_121 rfl (sn_getr clX9 (by decide) w_342 dX9_scrap_122 (sn_iload_n dX9_scrap_125 rfl (sn_iaload dX9_scrap_126 (sn_isub dX9_scrap_127 b_X9_scrap_128)))))) (sn_iload_n dX9_scrap_115 rfl (sn_goto (tgt := 128) dX9_scrap_116 (by decide) (b_X9_scrap_128))))
def q_X9_scrap_105 (X : mh_X) : mh_PR := s_inc 5 (1) (mh_G X 55)
theorem b_X9_scrap_105 {E : mh_E} {d mc ms : Nat} {Post : Option Value → mh_H → Prop} : mh_S (x_X9_scrap E d mc ms Post) 105 (q_X9_scrap_105 (x_X9_scrap E d mc ms Post)) := sn_iinc dX9_scrap_105 (by decide) (Nat.le_of_ble_eq_true rfl) (sn_goto (tgt := 55) dX9_scrap_108 (by decide) (mh_S.G))
def q_X9_scrap_55 (X : mh_X) : mh_PR := s_il 5 (s_al 0 (s_gr 9 0 (s_gi 0 3 (s_if2 (fun x y => y ≤ x) (q_X9_scrap_111 X) (s_il 5 (s_push (.int (10)) (s_if2 (fun x y => y ≤ x) (q_X9_scrap_111 X) (s_il 4 (s_al 0 (s_gr 9 8 (s_il 5 (s_ald 0 (s_bin (fun x y => x + y) (s_is 4 (s_al 0 (s_gr 9 8 (s_il 5 (s_ald 0 (s_al 0 (s_gr 9 8 (s_il 3 (s_ald 0 (s_if2 (fun x y => x ≤ y) (q_X9_scrap_105 X) (s_il 5 (s_is 3 (q_X9_scrap_105 X))))))))))))))))))))))))))
theorem b_X9_scrap_55 {E : mh_E} {d mc ms : Nat} {Post : Option Value → mh_H → Prop} : mh_S (x_X9_scrap E d mc ms Post) 55 (q_X9_scrap_55 (x_X9_scrap E d mc ms Post)) := sn_iload dX9_scrap_55 (sn_aload_n dX9_scrap_57 rfl (sn_getr clX9 (by decide) w_334 dX9_scrap_58 (sn_geti clX0 (by decide) w_184 dX9_scrap_61 (sn_icmp_ge (tgt := 111) dX9_scrap_64 (by decide) (b_X9_scrap_111) (sn_iload dX9_scrap_67 (sn_bipush dX9_scrap_69 (by decide) (sn_icmp_ge (tgt := 111) dX9_scrap_71 (by decide) (b_X9_scrap_111) (sn_iload dX9_scrap_74 (sn_aload_n dX9_scrap_76 rfl (sn_getr clX9 (by decide) w_342 dX9_scrap_77 (sn_iload dX9_scrap_80 (sn_iaload dX9_scrap_82 (sn_iadd dX9_scrap_83 (sn_istore dX9_scrap_84 (Nat.le_of_ble_eq_true rfl) (sn_aload_n dX9_scrap_86 rfl (sn_getr clX9 (by decide) w_342 dX9_scrap_87 (sn_iload dX9_scrap_90 (sn_iaload dX9_scrap_92 (sn_aload_n dX9_scrap_93 rfl (sn_getr clX9 (by decide) w_342 dX9_scrap_94 (sn_iload_n dX9_scrap_97 rfl (sn_iaload dX9_scrap_98 (sn_icmp_le (tgt := 105) dX9_scrap_99 (by decide) (b_X9_scrap_105) (sn_iload dX9_scrap_102 (sn_istore_n dX9_scrap_104 rfl (Nat.le_of_ble_eq_true rfl) b_X9_scrap_105)))))))))))))))))))))))))
def q_X9_scrap_20 (X : mh_X) : mh_PR := s_push (.int (-1000000001)) (s_iret X)
theorem b_X9_scrap_20 {E : mh_E} {d mc ms : Nat} {Post : Option Value → mh_H → Prop} : mh_S (x_X9_scrap E d mc ms Post) 20 (q_X9_scrap_20 (x_X9_scrap E d mc ms Post)) := sn_ldc dX9_scrap_20 w_387 (sn_iret rfl dX9_scrap_22)
def q_X9_scrap_0 (X : mh_X) : mh_PR := s_il 1 (s_push (.int (1)) (s_if2 (fun x y => x < y) (q_X9_scrap_20 X) (s_il 1 (s_push (.int (60)) (s_if2 (fun x y => y < x) (q_X9_scrap_20 X) (s_il 2 (s_if1 (fun x => x < 0) (q_X9_scrap_20 X) (s_il 2 (s_push (.int (1)) (s_if2 (fun x y => x ≤ y) (s_al 0 (s_gr 9 0 (s_gi 0 3 (s_if1 (fun x => ¬ x = 0) (s_al 0 (s_il 1 (s_cv X yX9_sumCosts 9 1 (s_push (.int (0)) (s_is 3 (s_al 0 (s_gr 9 0 (s_gi 0 6 (s_is 4 (s_push (.int (0)) (s_is 5 (mh_G X 55)))))))))))) (s_push (.int (-1000000005)) (s_iret X)))))) (q_X9_scrap_20 X)))))))))))
theorem b_X9_scrap_0 {E : mh_E} {d mc ms : Nat} {Post : Option Value → mh_H → Prop} : mh_S (x_X9_scrap E d mc ms Post) 0 (q_X9_scrap_0 (x_X9_scrap E d mc ms Post)) := sn_iload_n dX9_scrap_0 rfl (sn_iconst dX9_scrap_1 (by decide) (sn_icmp_lt (tgt := 20) dX9_scrap_2 (by decide) (b_X9_scrap_20) (sn_iload_n dX9_scrap_5 rfl (sn_bipush dX9_scrap_6 (by decide) (sn_icmp_gt (tgt := 20) dX9_scrap_8 (by decide) (b_X9_scrap_20) (sn_iload_n dX9_scrap_11 rfl (sn_if_lt (tgt := 20) dX9_scrap_12 (by decide) (b_X9_scrap_20) (sn_iload_n dX9_scrap_15 rfl (sn_iconst dX9_scrap_16 (by decide) (sn_icmp_le (tgt := 23) dX9_scrap_17 (by decide) (sn_aload_n dX9_scrap_23 rfl (sn_getr clX9 (by decide) w_334 dX9_scrap_24 (sn_geti clX0 (by decide) w_184 dX9_scrap_27 (sn_if_ne (tgt := 36) dX9_scrap_30 (by decide) (sn_aload_n dX9_scrap_36 rfl (sn_iload_n dX9_scrap_37 rfl (sn_cv w_708 w_710 w_7 w_56 rfl nm_X9_sumCosts dX9_scrap_38 (sn_iconst dX9_scrap_41 (by decide) (sn_istore_n dX9_scrap_42 rfl (Nat.le_of_ble_eq_true rfl) (sn_aload_n dX9_scrap_43 rfl (sn_getr clX9 (by decide) w_334 dX9_scrap_44 (sn_geti clX0 (by decide) w_190 dX9_scrap_47 (sn_istore dX9_scrap_50 (Nat.le_of_ble_eq_true rfl) (sn_iconst dX9_scrap_52 (by decide) (sn_istore dX9_scrap_53 (Nat.le_of_ble_eq_true rfl) mh_S.G))))))))))) (sn_ldc dX9_scrap_33 w_511 (sn_iret rfl dX9_scrap_35)))))) (b_X9_scrap_20)))))))))))
theorem m_X9_scrap {E : mh_E} {d mc ms : Nat} {args : List Value} {h : mh_H} {Post : Option Value → mh_H → Prop} (lv : List (Option Value)) (hl : lv_args 0 args = mh_al 0 lv) (hs : (lg_sl args).length ≤ 6) (hG : q_X9_scrap_0 (x_X9_scrap E d mc ms Post) lv [] h 0 0) : mh_M E d mc ms yX9_scrap args h Post := mh_M.of w_707 (by decide) (by decide) hl hs (b_X9_scrap_0 _ _ _ _ _ hG)
theorem dX9_becomes_0 : decode cX9_becomes 0 = .ok (.aload_n 0, 1) := by decide +kernel
theorem dX9_becomes_1 : decode cX9_becomes 1 = .ok (.iload_n 1, 1) := by decide +kernel
theorem dX9_becomes_2 : decode cX9_becomes 2 = .ok (.invokevirtual 86, 3) := by decide +kernel
theorem dX9_becomes_5 : decode cX9_becomes 5 = .ok (.ifCond .eq 23, 3) := by decide +kernel
theorem dX9_becomes_8 : decode cX9_becomes 8 = .ok (.iload_n 2, 1) := by decide +kernel
theorem dX9_becomes_9 : decode cX9_becomes 9 = .ok (.iconst 1, 1) := by decide +kernel
theorem dX9_becomes_10 : decode cX9_becomes 10 = .ok (.if_icmp .lt 18, 3) := by decide +kernel
theorem dX9_becomes_13 : decode cX9_becomes 13 = .ok (.iload_n 2, 1) := by decide +kernel
theorem dX9_becomes_14 : decode cX9_becomes 14 = .ok (.bipush 60, 2) := by decide +kernel
theorem dX9_becomes_16 : decode cX9_becomes 16 = .ok (.if_icmp .gt 12, 3) := by decide +kernel
theorem dX9_becomes_19 : decode cX9_becomes 19 = .ok (.iload_n 3, 1) := by decide +kernel
theorem dX9_becomes_20 : decode cX9_becomes 20 = .ok (.ifCond .lt 8, 3) := by decide +kernel
theorem dX9_becomes_23 : decode cX9_becomes 23 = .ok (.iload_n 3, 1) := by decide +kernel
theorem dX9_becomes_24 : decode cX9_becomes 24 = .ok (.iconst 1, 1) := by decide +kernel
theorem dX9_becomes_25 : decode cX9_becomes 25 = .ok (.if_icmp .le 6, 3) := by decide +kernel
theorem dX9_becomes_28 : decode cX9_becomes 28 = .ok (.ldc 81, 2) := by decide +kernel
theorem dX9_becomes_30 : decode cX9_becomes 30 = .ok (.ireturn, 1) := by decide +kernel
theorem dX9_becomes_31 : decode cX9_becomes 31 = .ok (.iconst (-1), 1) := by decide +kernel
theorem dX9_becomes_32 : decode cX9_becomes 32 = .ok (.istore 4, 2) := by decide +kernel
theorem dX9_becomes_34 : decode cX9_becomes 34 = .ok (.iconst 0, 1) := by decide +kernel
theorem dX9_becomes_35 : decode cX9_becomes 35 = .ok (.istore 5, 2) := by decide +kernel
theorem dX9_becomes_37 : decode cX9_becomes 37 = .ok (.iconst 0, 1) := by decide +kernel
theorem dX9_becomes_38 : decode cX9_becomes 38 = .ok (.istore 6, 2) := by decide +kernel
theorem dX9_becomes_40 : decode cX9_becomes 40 = .ok (.iload 6, 2) := by decide +kernel
theorem dX9_becomes_42 : decode cX9_becomes 42 = .ok (.bipush 6, 2) := by decide +kernel
theorem dX9_becomes_44 : decode cX9_becomes 44 = .ok (.if_icmp .ge 59, 3) := by decide +kernel
theorem dX9_becomes_47 : decode cX9_becomes 47 = .ok (.aload_n 0, 1) := by decide +kernel
theorem dX9_becomes_48 : decode cX9_becomes 48 = .ok (.getfield 19, 3) := by decide +kernel
theorem dX9_becomes_51 : decode cX9_becomes 51 = .ok (.aload_n 0, 1) := by decide +kernel
theorem dX9_becomes_52 : decode cX9_becomes 52 = .ok (.getfield 12, 3) := by decide +kernel
theorem dX9_becomes_55 : decode cX9_becomes 55 = .ok (.invokevirtual 226, 3) := by decide +kernel
theorem dX9_becomes_58 : decode cX9_becomes 58 = .ok (.aload_n 0, 1) := by decide +kernel
theorem dX9_becomes_59 : decode cX9_becomes 59 = .ok (.getfield 19, 3) := by decide +kernel
theorem dX9_becomes_62 : decode cX9_becomes 62 = .ok (.getfield 89, 3) := by decide +kernel
theorem dX9_becomes_65 : decode cX9_becomes 65 = .ok (.iload_n 1, 1) := by decide +kernel
theorem dX9_becomes_66 : decode cX9_becomes 66 = .ok (.aaload, 1) := by decide +kernel
theorem dX9_becomes_67 : decode cX9_becomes 67 = .ok (.iload 6, 2) := by decide +kernel
theorem dX9_becomes_69 : decode cX9_becomes 69 = .ok (.putfield 93, 3) := by decide +kernel
theorem dX9_becomes_72 : decode cX9_becomes 72 = .ok (.aload_n 0, 1) := by decide +kernel
theorem dX9_becomes_73 : decode cX9_becomes 73 = .ok (.getfield 19, 3) := by decide +kernel
theorem dX9_becomes_76 : decode cX9_becomes 76 = .ok (.iload_n 2, 1) := by decide +kernel
theorem dX9_becomes_77 : decode cX9_becomes 77 = .ok (.invokevirtual 230, 3) := by decide +kernel
theorem dX9_becomes_80 : decode cX9_becomes 80 = .ok (.istore 7, 2) := by decide +kernel
theorem dX9_becomes_82 : decode cX9_becomes 82 = .ok (.iload 7, 2) := by decide +kernel
theorem dX9_becomes_84 : decode cX9_becomes 84 = .ok (.iload 4, 2) := by decide +kernel
theorem dX9_becomes_86 : decode cX9_becomes 86 = .ok (.if_icmp .le 11, 3) := by decide +kernel
theorem dX9_becomes_89 : decode cX9_becomes 89 = .ok (.iload 7, 2) := by decide +kernel
theorem dX9_becomes_91 : decode cX9_becomes 91 = .ok (.istore 4, 2) := by decide +kernel
theorem dX9_becomes_93 : decode cX9_becomes 93 = .ok (.iload 6, 2) := by decide +kernel
theorem dX9_becomes_95 : decode cX9_becomes 95 = .ok (.istore 5, 2) := by decide +kernel
theorem dX9_becomes_97 : decode cX9_becomes 97 = .ok (.iinc 6 1, 3) := by decide +kernel
theorem dX9_becomes_100 : decode cX9_becomes 100 = .ok (.goto (-60), 3) := by decide +kernel
theorem dX9_becomes_103 : decode cX9_becomes 103 = .ok (.iload_n 3, 1) := by decide +kernel
theorem dX9_becomes_104 : decode cX9_becomes 104 = .ok (.ifCond .ne 8, 3) := by decide +kernel
theorem dX9_becomes_107 : decode cX9_becomes 107 = .ok (.iload 5, 2) := by decide +kernel
theorem dX9_becomes_109 : decode cX9_becomes 109 = .ok (.goto 5, 3) := by decide +kernel
theorem dX9_becomes_112 : decode cX9_becomes 112 = .ok (.iload 4, 2) := by decide +kernel
theorem dX9_becomes_114 : decode cX9_becomes 114 = .ok (.ireturn, 1) := by decide +kernel
abbrev x_X9_becomes (E : mh_E) (d mc ms : Nat) (Post : Option Value → mh_H → Prop) : mh_X := (E, yX9_becomes, cX9_becomes, 8, (some .int), d, mc, ms, Post)
def q_X9_becomes_114 (X : mh_X) : mh_PR := s_iret X
theorem b_X9_becomes_114 {E : mh_E} {d mc ms : Nat} {Post : Option Value → mh_H → Prop} : mh_S (x_X9_becomes E d mc ms Post) 114 (q_X9_becomes_114 (x_X9_becomes E d mc ms Post)) := sn_iret rfl dX9_becomes_114
def q_X9_becomes_97 (X : mh_X) : mh_PR := s_inc 6 (1) (mh_G X 40)
theorem b_X9_becomes_97 {E : mh_E} {d mc ms : Nat} {Post : Option Value → mh_H → Prop} : mh_S (x_X9_becomes E d mc ms Post) 97 (q_X9_becomes_97 (x_X9_becomes E d mc ms Post)) := sn_iinc dX9_becomes_97 (by decide) (Nat.le_of_ble_eq_true rfl) (sn_goto (tgt := 40) dX9_becomes_100 (by decide) (mh_S.G))
def q_X9_becomes_40 (X : mh_X) : mh_PR := s_il 6 (s_push (.int (6)) (s_if2 (fun x y => y ≤ x) (s_il 3 (s_if1 (fun x => ¬ x = 0) (s_il 4 (q_X9_becomes_114 X)) (s_il 5 (q_X9_becomes_114 X)))) (s_al 0 (s_gr 9 2 (s_al 0 (s_gr 9 0 (s_cv X yX0_become 0 1 (s_al 0 (s_gr 9 2 (s_gr 0 1 (s_il 1 (s_aald 6 (s_il 6 (s_pi 6 0 (s_al 0 (s_gr 9 2 (s_il 2 (s_cv X yX0_fulfilledBehind 0 1 (s_is 7 (s_il 7 (s_il 4 (s_if2 (fun x y => x ≤ y) (q_X9_becomes_97 X) (s_il 7 (s_is 4 (s_il 6 (s_is 5 (q_X9_becomes_97 X)))))))))))))))))))))))))))
theorem b_X9_becomes_40 {E : mh_E} {d mc ms : Nat} {Post : Option Value → mh_H → Prop} : mh_S (x_X9_becomes E d mc ms Post) 40 (q_X9_becomes_40 (x_X9_becomes E d mc ms Post)) := sn_iload dX9_becomes_40 (sn_bipush dX9_becomes_42 (by decide) (sn_icmp_ge (tgt := 103) dX9_becomes_44 (by decide) (sn_iload_n dX9_becomes_103 rfl (sn_if_ne (tgt := 112) dX9_becomes_104 (by decide) (sn_iload dX9_becomes_112 b_X9_becomes_114) (sn_iload dX9_becomes_107 (sn_goto (tgt := 114) dX9_becomes_109 (by decide) (b_X9_becomes_114))))) (sn_aload_n dX9_becomes_47 rfl (sn_getr clX9 (by decide) w_336 dX9_becomes_48 (sn_aload_n dX9_becomes_51 rfl (sn_getr clX9 (by decide) w_334 dX9_becomes_52 (sn_cv w_658 w_659 w_660 w_57 rfl nm_X0_become dX9_becomes_55 (sn_aload_n dX9_becomes_58 rfl (sn_getr clX9 (by decide) w_336 dX9_becomes_59 (sn_getr clX0 (by decide) w_178 dX9_becomes_62 (sn_iload_n dX9_becomes_65 rfl (sn_aaload (by decide) rfl dX9_becomes_66 (sn_iload dX9_becomes_67 (sn_puti clX6 (by decide) w_143 rfl rfl dX9_becomes_69 (sn_aload_n dX9_becomes_72 rfl (sn_getr clX9 (by decide) w_336 dX9_becomes_73 (sn_iload_n dX9_becomes_76 rfl (sn_cv w_676 w_677 w_678 w_57 rfl nm_X0_fulfilledBehind dX9_becomes_77 (sn_istore dX9_becomes_80 (Nat.le_of_ble_eq_true rfl) (sn_iload dX9_becomes_82 (sn_iload dX9_becomes_84 (sn_icmp_le (tgt := 97) dX9_becomes_86 (by decide) (b_X9_becomes_97) (sn_iload dX9_becomes_89 (sn_istore dX9_becomes_91 (Nat.le_of_ble_eq_true rfl) (sn_iload dX9_becomes_93 (sn_istore dX9_becomes_95 (Nat.le_of_ble_eq_true rfl) b_X9_becomes_97))))))))))))))))))))))))))
def q_X9_becomes_28 (X : mh_X) : mh_PR := s_push (.int (-1000000001)) (s_iret X)
theorem b_X9_becomes_28 {E : mh_E} {d mc ms : Nat} {Post : Option Value → mh_H → Prop} : mh_S (x_X9_becomes E d mc ms Post) 28 (q_X9_becomes_28 (x_X9_becomes E d mc ms Post)) := sn_ldc dX9_becomes_28 w_387 (sn_iret rfl dX9_becomes_30)
def q_X9_becomes_0 (X : mh_X) : mh_PR := s_al 0 (s_il 1 (s_cv X yX9_isStone 9 1 (s_if1 (fun x => x = 0) (q_X9_becomes_28 X) (s_il 2 (s_push (.int (1)) (s_if2 (fun x y => x < y) (q_X9_becomes_28 X) (s_il 2 (s_push (.int (60)) (s_if2 (fun x y => y < x) (q_X9_becomes_28 X) (s_il 3 (s_if1 (fun x => x < 0) (q_X9_becomes_28 X) (s_il 3 (s_push (.int (1)) (s_if2 (fun x y => x ≤ y) (s_push (.int (-1)) (s_is 4 (s_push (.int (0)) (s_is 5 (s_push (.int (0)) (s_is 6 (mh_G X 40))))))) (q_X9_becomes_28 X)))))))))))))))
theorem b_X9_becomes_0 {E : mh_E} {d mc ms : Nat} {Post : Option Value → mh_H → Prop} : mh_S (x_X9_becomes E d mc ms Post) 0 (q_X9_becomes_0 (x_X9_becomes E d mc ms Post)) := sn_aload_n dX9_becomes_0 rfl (sn_iload_n dX9_becomes_1 rfl (sn_cv w_398 w_400 w_0 w_56 rfl nm_X9_isStone dX9_becomes_2 (sn_if_eq (tgt := 28) dX9_becomes_5 (by decide) (b_X9_becomes_28) (sn_iload_n dX9_becomes_8 rfl (sn_iconst dX9_becomes_9 (by decide) (sn_icmp_lt (tgt := 28) dX9_becomes_10 (by decide) (b_X9_becomes_28) (sn_iload_n dX9_becomes_13 rfl (sn_bipush dX9_becomes_14 (by decide) (sn_icmp_gt (tgt := 28) dX9_becomes_16 (by decide) (b_X9_becomes_28) (sn_iload_n dX9_becomes_19 rfl (sn_if_lt (tgt := 28) dX9_becomes_20 (by decide) (b_X9_becomes_28) (sn_iload_n dX9_becomes_23 rfl (sn_iconst dX9_becomes_24 (by decide) (sn_icmp_le (tgt := 31) dX9_becomes_25 (by decide) (sn_iconst dX9_becomes_31 (by decide) (sn_istore dX9_becomes_32 (Nat.le_of_ble_eq_true rfl) (sn_iconst dX9_becomes_34 (by decide) (sn_istore dX9_becomes_35 (Nat.le_of_ble_eq_true rfl) (sn_iconst dX9_becomes_37 (by decide) (sn_istore dX9_becomes_38 (Nat.le_of_ble_eq_true rfl) mh_S.G)))))) (b_X9_becomes_28)))))))))))))))
theorem m_X9_becomes {E : mh_E} {d mc ms : Nat} {args : List Value} {h : mh_H} {Post : Option Value → mh_H → Prop} (lv : List (Option Value)) (hl : lv_args 0 args = mh_al 0 lv) (hs : (lg_sl args).length ≤ 8) (hG : q_X9_becomes_0 (x_X9_becomes E d mc ms Post) lv [] h 0 0) : mh_M E d mc ms yX9_becomes args h Post := mh_M.of w_717 (by decide) (by decide) hl hs (b_X9_becomes_0 _ _ _ _ _ hG)
theorem dX9_latest_0 : decode cX9_latest 0 = .ok (.aload_n 0, 1) := by decide +kernel
theorem dX9_latest_1 : decode cX9_latest 1 = .ok (.iload_n 1, 1) := by decide +kernel
theorem dX9_latest_2 : decode cX9_latest 2 = .ok (.invokevirtual 86, 3) := by decide +kernel
theorem dX9_latest_5 : decode cX9_latest 5 = .ok (.ifCond .ne 6, 3) := by decide +kernel
theorem dX9_latest_8 : decode cX9_latest 8 = .ok (.ldc 81, 2) := by decide +kernel
theorem dX9_latest_10 : decode cX9_latest 10 = .ok (.ireturn, 1) := by decide +kernel
theorem dX9_latest_11 : decode cX9_latest 11 = .ok (.aload_n 0, 1) := by decide +kernel
theorem dX9_latest_12 : decode cX9_latest 12 = .ok (.getfield 12, 3) := by decide +kernel
theorem dX9_latest_15 : decode cX9_latest 15 = .ok (.getfield 89, 3) := by decide +kernel
theorem dX9_latest_18 : decode cX9_latest 18 = .ok (.iload_n 1, 1) := by decide +kernel
theorem dX9_latest_19 : decode cX9_latest 19 = .ok (.aaload, 1) := by decide +kernel
theorem dX9_latest_20 : decode cX9_latest 20 = .ok (.astore_n 2, 1) := by decide +kernel
theorem dX9_latest_21 : decode cX9_latest 21 = .ok (.aload_n 2, 1) := by decide +kernel
theorem dX9_latest_22 : decode cX9_latest 22 = .ok (.invokevirtual 142, 3) := by decide +kernel
theorem dX9_latest_25 : decode cX9_latest 25 = .ok (.ifCond .eq 6, 3) := by decide +kernel
theorem dX9_latest_28 : decode cX9_latest 28 = .ok (.ldc 146, 2) := by decide +kernel
theorem dX9_latest_30 : decode cX9_latest 30 = .ok (.ireturn, 1) := by decide +kernel
theorem dX9_latest_31 : decode cX9_latest 31 = .ok (.aload_n 0, 1) := by decide +kernel
theorem dX9_latest_32 : decode cX9_latest 32 = .ok (.aload_n 2, 1) := by decide +kernel
theorem dX9_latest_33 : decode cX9_latest 33 = .ok (.bipush 61, 2) := by decide +kernel
theorem dX9_latest_35 : decode cX9_latest 35 = .ok (.invokevirtual 237, 3) := by decide +kernel
theorem dX9_latest_38 : decode cX9_latest 38 = .ok (.istore_n 3, 1) := by decide +kernel
theorem dX9_latest_39 : decode cX9_latest 39 = .ok (.iload_n 3, 1) := by decide +kernel
theorem dX9_latest_40 : decode cX9_latest 40 = .ok (.ldc 147, 2) := by decide +kernel
theorem dX9_latest_42 : decode cX9_latest 42 = .ok (.if_icmp .ne 8, 3) := by decide +kernel
theorem dX9_latest_45 : decode cX9_latest 45 = .ok (.ldc 147, 2) := by decide +kernel
theorem dX9_latest_47 : decode cX9_latest 47 = .ok (.goto 14, 3) := by decide +kernel
theorem dX9_latest_50 : decode cX9_latest 50 = .ok (.aload_n 0, 1) := by decide +kernel
theorem dX9_latest_51 : decode cX9_latest 51 = .ok (.getfield 12, 3) := by decide +kernel
theorem dX9_latest_54 : decode cX9_latest 54 = .ok (.getfield 189, 3) := by decide +kernel
theorem dX9_latest_57 : decode cX9_latest 57 = .ok (.iload_n 3, 1) := by decide +kernel
theorem dX9_latest_58 : decode cX9_latest 58 = .ok (.iadd, 1) := by decide +kernel
theorem dX9_latest_59 : decode cX9_latest 59 = .ok (.iconst 1, 1) := by decide +kernel
theorem dX9_latest_60 : decode cX9_latest 60 = .ok (.isub, 1) := by decide +kernel
theorem dX9_latest_61 : decode cX9_latest 61 = .ok (.ireturn, 1) := by decide +kernel
abbrev x_X9_latest (E : mh_E) (d mc ms : Nat) (Post : Option Value → mh_H → Prop) : mh_X := (E, yX9_latest, cX9_latest, 4, (some .int), d, mc, ms, Post)
def q_X9_latest_61 (X : mh_X) : mh_PR := s_iret X
theorem b_X9_latest_61 {E : mh_E} {d mc ms : Nat} {Post : Option Value → mh_H → Prop} : mh_S (x_X9_latest E d mc ms Post) 61 (q_X9_latest_61 (x_X9_latest E d mc ms Post)) := sn_iret rfl dX9_latest_61
def q_X9_latest_0 (X : mh_X) : mh_PR := s_al 0 (s_il 1 (s_cv X yX9_isStone 9 1 (s_if1 (fun x => ¬ x = 0) (s_al 0 (s_gr 9 0 (s_gr 0 1 (s_il 1 (s_aald 6 (s_as 2 (s_al 2 (s_cv X yX6_isFulfilled 6 0 (s_if1 (fun x => x = 0) (s_al 0 (s_al 2 (s_push (.int (61)) (s_cv X yX9_yearsUntilHolding 9 2 (s_is 3 (s_il 3 (s_push (.int (-1000000005)) (s_if2 (fun x y => ¬ x = y) (s_al 0 (s_gr 9 0 (s_gi 0 8 (s_il 3 (s_bin (fun x y => x + y) (s_push (.int (1)) (s_bin (fun x y => x - y) (q_X9_latest_61 X)))))))) (s_push (.int (-1000000005)) (q_X9_latest_61 X)))))))))) (s_push (.int (-1000000002)) (s_iret X))))))))))) (s_push (.int (-1000000001)) (s_iret X)))))
theorem b_X9_latest_0 {E : mh_E} {d mc ms : Nat} {Post : Option Value → mh_H → Prop} : mh_S (x_X9_latest E d mc ms Post) 0 (q_X9_latest_0 (x_X9_latest E d mc ms Post)) := sn_aload_n dX9_latest_0 rfl (sn_iload_n dX9_latest_1 rfl (sn_cv w_398 w_400 w_0 w_56 rfl nm_X9_isStone dX9_latest_2 (sn_if_ne (tgt := 11) dX9_latest_5 (by decide) (sn_aload_n dX9_latest_11 rfl (sn_getr clX9 (by decide) w_334 dX9_latest_12 (sn_getr clX0 (by decide) w_178 dX9_latest_15 (sn_iload_n dX9_latest_18 rfl (sn_aaload (by decide) rfl dX9_latest_19 (sn_astore_n dX9_latest_20 rfl (Nat.le_of_ble_eq_true rfl) (sn_aload_n dX9_latest_21 rfl (sn_cv w_506 w_507 w_508 w_61 rfl nm_X6_isFulfilled dX9_latest_22 (sn_if_eq (tgt := 31) dX9_latest_25 (by decide) (sn_aload_n dX9_latest_31 rfl (sn_aload_n dX9_latest_32 rfl (sn_bipush dX9_latest_33 (by decide) (sn_cv w_691 w_693 w_6 w_56 rfl nm_X9_yearsUntilHolding dX9_latest_35 (sn_istore_n dX9_latest_38 rfl (Nat.le_of_ble_eq_true rfl) (sn_iload_n dX9_latest_39 rfl (sn_ldc dX9_latest_40 w_511 (sn_icmp_ne (tgt := 50) dX9_latest_42 (by decide) (sn_aload_n dX9_latest_50 rfl (sn_getr clX9 (by decide) w_334 dX9_latest_51 (sn_geti clX0 (by decide) w_194 dX9_latest_54 (sn_iload_n dX9_latest_57 rfl (sn_iadd dX9_latest_58 (sn_iconst dX9_latest_59 (by decide) (sn_isub dX9_latest_60 b_X9_latest_61))))))) (sn_ldc dX9_latest_45 w_511 (sn_goto (tgt := 61) dX9_latest_47 (by decide) (b_X9_latest_61))))))))))) (sn_ldc dX9_latest_28 w_510 (sn_iret rfl dX9_latest_30))))))))))) (sn_ldc dX9_latest_8 w_387 (sn_iret rfl dX9_latest_10)))))
theorem m_X9_latest {E : mh_E} {d mc ms : Nat} {args : List Value} {h : mh_H} {Post : Option Value → mh_H → Prop} (lv : List (Option Value)) (hl : lv_args 0 args = mh_al 0 lv) (hs : (lg_sl args).length ≤ 4) (hG : q_X9_latest_0 (x_X9_latest E d mc ms Post) lv [] h 0 0) : mh_M E d mc ms yX9_latest args h Post := mh_M.of w_721 (by decide) (by decide) hl hs (b_X9_latest_0 _ _ _ _ _ hG)
theorem dX9_whose_0 : decode cX9_whose 0 = .ok (.iload_n 1, 1) := by decide +kernel
theorem dX9_whose_1 : decode cX9_whose 1 = .ok (.invokestatic 244, 3) := by decide +kernel
theorem dX9_whose_4 : decode cX9_whose 4 = .ok (.ifCond .eq 12, 3) := by decide +kernel
theorem dX9_whose_7 : decode cX9_whose 7 = .ok (.iload_n 2, 1) := by decide +kernel
theorem dX9_whose_8 : decode cX9_whose 8 = .ok (.ifCond .lt 8, 3) := by decide +kernel
theorem dX9_whose_11 : decode cX9_whose 11 = .ok (.iload_n 2, 1) := by decide +kernel
theorem dX9_whose_12 : decode cX9_whose 12 = .ok (.iconst 1, 1) := by decide +kernel
theorem dX9_whose_13 : decode cX9_whose 13 = .ok (.if_icmp .le 6, 3) := by decide +kernel
theorem dX9_whose_16 : decode cX9_whose 16 = .ok (.ldc 81, 2) := by decide +kernel
theorem dX9_whose_18 : decode cX9_whose 18 = .ok (.ireturn, 1) := by decide +kernel
theorem dX9_whose_19 : decode cX9_whose 19 = .ok (.aload_n 0, 1) := by decide +kernel
theorem dX9_whose_20 : decode cX9_whose 20 = .ok (.getfield 38, 3) := by decide +kernel
theorem dX9_whose_23 : decode cX9_whose 23 = .ok (.iload_n 1, 1) := by decide +kernel
theorem dX9_whose_24 : decode cX9_whose 24 = .ok (.aaload, 1) := by decide +kernel
theorem dX9_whose_25 : decode cX9_whose 25 = .ok (.astore_n 3, 1) := by decide +kernel
theorem dX9_whose_26 : decode cX9_whose 26 = .ok (.aload_n 3, 1) := by decide +kernel
theorem dX9_whose_27 : decode cX9_whose 27 = .ok (.invokevirtual 247, 3) := by decide +kernel
theorem dX9_whose_30 : decode cX9_whose 30 = .ok (.ifCond .eq 6, 3) := by decide +kernel
theorem dX9_whose_33 : decode cX9_whose 33 = .ok (.ldc 250, 2) := by decide +kernel
theorem dX9_whose_35 : decode cX9_whose 35 = .ok (.ireturn, 1) := by decide +kernel
theorem dX9_whose_36 : decode cX9_whose 36 = .ok (.aload_n 0, 1) := by decide +kernel
theorem dX9_whose_37 : decode cX9_whose 37 = .ok (.aload_n 3, 1) := by decide +kernel
theorem dX9_whose_38 : decode cX9_whose 38 = .ok (.invokevirtual 251, 3) := by decide +kernel
theorem dX9_whose_41 : decode cX9_whose 41 = .ok (.iconst 0, 1) := by decide +kernel
theorem dX9_whose_42 : decode cX9_whose 42 = .ok (.istore 4, 2) := by decide +kernel
theorem dX9_whose_44 : decode cX9_whose 44 = .ok (.iconst 1, 1) := by decide +kernel
theorem dX9_whose_45 : decode cX9_whose 45 = .ok (.istore 5, 2) := by decide +kernel
theorem dX9_whose_47 : decode cX9_whose 47 = .ok (.iload 5, 2) := by decide +kernel
theorem dX9_whose_49 : decode cX9_whose 49 = .ok (.bipush 6, 2) := by decide +kernel
theorem dX9_whose_51 : decode cX9_whose 51 = .ok (.if_icmp .ge 30, 3) := by decide +kernel
theorem dX9_whose_54 : decode cX9_whose 54 = .ok (.aload_n 0, 1) := by decide +kernel
theorem dX9_whose_55 : decode cX9_whose 55 = .ok (.getfield 52, 3) := by decide +kernel
theorem dX9_whose_58 : decode cX9_whose 58 = .ok (.iload 5, 2) := by decide +kernel
theorem dX9_whose_60 : decode cX9_whose 60 = .ok (.iaload, 1) := by decide +kernel
theorem dX9_whose_61 : decode cX9_whose 61 = .ok (.aload_n 0, 1) := by decide +kernel
theorem dX9_whose_62 : decode cX9_whose 62 = .ok (.getfield 52, 3) := by decide +kernel
theorem dX9_whose_65 : decode cX9_whose 65 = .ok (.iload 4, 2) := by decide +kernel
theorem dX9_whose_67 : decode cX9_whose 67 = .ok (.iaload, 1) := by decide +kernel
theorem dX9_whose_68 : decode cX9_whose 68 = .ok (.if_icmp .ge 7, 3) := by decide +kernel
theorem dX9_whose_71 : decode cX9_whose 71 = .ok (.iload 5, 2) := by decide +kernel
theorem dX9_whose_73 : decode cX9_whose 73 = .ok (.istore 4, 2) := by decide +kernel
theorem dX9_whose_75 : decode cX9_whose 75 = .ok (.iinc 5 1, 3) := by decide +kernel
theorem dX9_whose_78 : decode cX9_whose 78 = .ok (.goto (-31), 3) := by decide +kernel
theorem dX9_whose_81 : decode cX9_whose 81 = .ok (.iload_n 2, 1) := by decide +kernel
theorem dX9_whose_82 : decode cX9_whose 82 = .ok (.ifCond .ne 8, 3) := by decide +kernel
theorem dX9_whose_85 : decode cX9_whose 85 = .ok (.iload 4, 2) := by decide +kernel
theorem dX9_whose_87 : decode cX9_whose 87 = .ok (.goto 10, 3) := by decide +kernel
theorem dX9_whose_90 : decode cX9_whose 90 = .ok (.aload_n 0, 1) := by decide +kernel
theorem dX9_whose_91 : decode cX9_whose 91 = .ok (.getfield 52, 3) := by decide +kernel
theorem dX9_whose_94 : decode cX9_whose 94 = .ok (.iload 4, 2) := by decide +kernel
theorem dX9_whose_96 : decode cX9_whose 96 = .ok (.iaload, 1) := by decide +kernel
theorem dX9_whose_97 : decode cX9_whose 97 = .ok (.ireturn, 1) := by decide +kernel
abbrev x_X9_whose (E : mh_E) (d mc ms : Nat) (Post : Option Value → mh_H → Prop) : mh_X := (E, yX9_whose, cX9_whose, 6, (some .int), d, mc, ms, Post)
def q_X9_whose_97 (X : mh_X) : mh_PR := s_iret X
theorem b_X9_whose_97 {E : mh_E} {d mc ms : Nat} {Post : Option Value → mh_H → Prop} : mh_S (x_X9_whose E d mc ms Post) 97 (q_X9_whose_97 (x_X9_whose E d mc ms Post)) := sn_iret rfl dX9_whose_97
def q_X9_whose_75 (X : mh_X) : mh_PR := s_inc 5 (1) (mh_G X 47)
theorem b_X9_whose_75 {E : mh_E} {d mc ms : Nat} {Post : Option Value → mh_H → Prop} : mh_S (x_X9_whose E d mc ms Post) 75 (q_X9_whose_75 (x_X9_whose E d mc ms Post)) := sn_iinc dX9_whose_75 (by decide) (Nat.le_of_ble_eq_true rfl) (sn_goto (tgt := 47) dX9_whose_78 (by decide) (mh_S.G))
def q_X9_whose_47 (X : mh_X) : mh_PR := s_il 5 (s_push (.int (6)) (s_if2 (fun x y => y ≤ x) (s_il 2 (s_if1 (fun x => ¬ x = 0) (s_al 0 (s_gr 9 8 (s_il 4 (s_ald 0 (q_X9_whose_97 X))))) (s_il 4 (q_X9_whose_97 X)))) (s_al 0 (s_gr 9 8 (s_il 5 (s_ald 0 (s_al 0 (s_gr 9 8 (s_il 4 (s_ald 0 (s_if2 (fun x y => y ≤ x) (q_X9_whose_75 X) (s_il 5 (s_is 4 (q_X9_whose_75 X))))))))))))))
theorem b_X9_whose_47 {E : mh_E} {d mc ms : Nat} {Post : Option Value → mh_H → Prop} : mh_S (x_X9_whose E d mc ms Post) 47 (q_X9_whose_47 (x_X9_whose E d mc ms Post)) := sn_iload dX9_whose_47 (sn_bipush dX9_whose_49 (by decide) (sn_icmp_ge (tgt := 81) dX9_whose_51 (by decide) (sn_iload_n dX9_whose_81 rfl (sn_if_ne (tgt := 90) dX9_whose_82 (by decide) (sn_aload_n dX9_whose_90 rfl (sn_getr clX9 (by decide) w_342 dX9_whose_91 (sn_iload dX9_whose_94 (sn_iaload dX9_whose_96 b_X9_whose_97)))) (sn_iload dX9_whose_85 (sn_goto (tgt := 97) dX9_whose_87 (by decide) (b_X9_whose_97))))) (sn_aload_n dX9_whose_54 rfl (sn_getr clX9 (by decide) w_342 dX9_whose_55 (sn_iload dX9_whose_58 (sn_iaload dX9_whose_60 (sn_aload_n dX9_whose_61 rfl (sn_getr clX9 (by decide) w_342 dX9_whose_62 (sn_iload dX9_whose_65 (sn_iaload dX9_whose_67 (sn_icmp_ge (tgt := 75) dX9_whose_68 (by decide) (b_X9_whose_75) (sn_iload dX9_whose_71 (sn_istore dX9_whose_73 (Nat.le_of_ble_eq_true rfl) b_X9_whose_75)))))))))))))
def q_X9_whose_16 (X : mh_X) : mh_PR := s_push (.int (-1000000001)) (s_iret X)
theorem b_X9_whose_16 {E : mh_E} {d mc ms : Nat} {Post : Option Value → mh_H → Prop} : mh_S (x_X9_whose E d mc ms Post) 16 (q_X9_whose_16 (x_X9_whose E d mc ms Post)) := sn_ldc dX9_whose_16 w_387 (sn_iret rfl dX9_whose_18)
def q_X9_whose_0 (X : mh_X) : mh_PR := s_il 1 (s_cs X yX9_isSheet 1 (s_if1 (fun x => x = 0) (q_X9_whose_16 X) (s_il 2 (s_if1 (fun x => x < 0) (q_X9_whose_16 X) (s_il 2 (s_push (.int (1)) (s_if2 (fun x y => x ≤ y) (s_al 0 (s_gr 9 5 (s_il 1 (s_aald 4 (s_as 3 (s_al 3 (s_cv X yX4_isMissing 4 0 (s_if1 (fun x => x = 0) (s_al 0 (s_al 3 (s_cv X yX9_sumDifferences 9 1 (s_push (.int (0)) (s_is 4 (s_push (.int (1)) (s_is 5 (mh_G X 47)))))))) (s_push (.int (-1000000011)) (s_iret X)))))))))) (q_X9_whose_16 X))))))))
theorem b_X9_whose_0 {E : mh_E} {d mc ms : Nat} {Post : Option Value → mh_H → Prop} : mh_S (x_X9_whose E d mc ms Post) 0 (q_X9_whose_0 (x_X9_whose E d mc ms Post)) := sn_iload_n dX9_whose_0 rfl (sn_cs w_726 w_727 w_56 nm_X9_isSheet dX9_whose_1 (sn_if_eq (tgt := 16) dX9_whose_4 (by decide) (b_X9_whose_16) (sn_iload_n dX9_whose_7 rfl (sn_if_lt (tgt := 16) dX9_whose_8 (by decide) (b_X9_whose_16) (sn_iload_n dX9_whose_11 rfl (sn_iconst dX9_whose_12 (by decide) (sn_icmp_le (tgt := 19) dX9_whose_13 (by decide) (sn_aload_n dX9_whose_19 rfl (sn_getr clX9 (by decide) w_339 dX9_whose_20 (sn_iload_n dX9_whose_23 rfl (sn_aaload (by decide) rfl dX9_whose_24 (sn_astore_n dX9_whose_25 rfl (Nat.le_of_ble_eq_true rfl) (sn_aload_n dX9_whose_26 rfl (sn_cv w_729 w_730 w_731 w_64 rfl nm_X4_isMissing dX9_whose_27 (sn_if_eq (tgt := 36) dX9_whose_30 (by decide) (sn_aload_n dX9_whose_36 rfl (sn_aload_n dX9_whose_37 rfl (sn_cv w_734 w_736 w_8 w_56 rfl nm_X9_sumDifferences dX9_whose_38 (sn_iconst dX9_whose_41 (by decide) (sn_istore dX9_whose_42 (Nat.le_of_ble_eq_true rfl) (sn_iconst dX9_whose_44 (by decide) (sn_istore dX9_whose_45 (Nat.le_of_ble_eq_true rfl) mh_S.G))))))) (sn_ldc dX9_whose_33 w_733 (sn_iret rfl dX9_whose_35)))))))))) (b_X9_whose_16))))))))
theorem m_X9_whose {E : mh_E} {d mc ms : Nat} {args : List Value} {h : mh_H} {Post : Option Value → mh_H → Prop} (lv : List (Option Value)) (hl : lv_args 0 args = mh_al 0 lv) (hs : (lg_sl args).length ≤ 6) (hG : q_X9_whose_0 (x_X9_whose E d mc ms Post) lv [] h 0 0) : mh_M E d mc ms yX9_whose args h Post := mh_M.of w_725 (by decide) (by decide) hl hs (b_X9_whose_0 _ _ _ _ _ hG)
theorem dX9_fee_0 : decode cX9_fee 0 = .ok (.aload_n 0, 1) := by decide +kernel
theorem dX9_fee_1 : decode cX9_fee 1 = .ok (.getfield 12, 3) := by decide +kernel
theorem dX9_fee_4 : decode cX9_fee 4 = .ok (.getfield 255, 3) := by decide +kernel
theorem dX9_fee_7 : decode cX9_fee 7 = .ok (.iconst 1, 1) := by decide +kernel
theorem dX9_fee_8 : decode cX9_fee 8 = .ok (.aload_n 0, 1) := by decide +kernel
theorem dX9_fee_9 : decode cX9_fee 9 = .ok (.getfield 12, 3) := by decide +kernel
theorem dX9_fee_12 : decode cX9_fee 12 = .ok (.getfield 200, 3) := by decide +kernel
theorem dX9_fee_15 : decode cX9_fee 15 = .ok (.aload_n 0, 1) := by decide +kernel
theorem dX9_fee_16 : decode cX9_fee 16 = .ok (.getfield 12, 3) := by decide +kernel
theorem dX9_fee_19 : decode cX9_fee 19 = .ok (.getfield 203, 3) := by decide +kernel
theorem dX9_fee_22 : decode cX9_fee 22 = .ok (.iconst 0, 1) := by decide +kernel
theorem dX9_fee_23 : decode cX9_fee 23 = .ok (.aload_n 0, 1) := by decide +kernel
theorem dX9_fee_24 : decode cX9_fee 24 = .ok (.getfield 12, 3) := by decide +kernel
theorem dX9_fee_27 : decode cX9_fee 27 = .ok (.getfield 200, 3) := by decide +kernel
theorem dX9_fee_30 : decode cX9_fee 30 = .ok (.invokevirtual 259, 3) := by decide +kernel
theorem dX9_fee_33 : decode cX9_fee 33 = .ok (.ireturn, 1) := by decide +kernel
abbrev x_X9_fee (E : mh_E) (d mc ms : Nat) (Post : Option Value → mh_H → Prop) : mh_X := (E, yX9_fee, cX9_fee, 1, (some .int), d, mc, ms, Post)
def q_X9_fee_0 (X : mh_X) : mh_PR := s_al 0 (s_gr 9 0 (s_gr 0 2 (s_push (.int (1)) (s_al 0 (s_gr 9 0 (s_gi 0 6 (s_al 0 (s_gr 9 0 (s_gi 0 7 (s_push (.int (0)) (s_al 0 (s_gr 9 0 (s_gi 0 6 (s_cv X yX2_given 2 5 (s_iret X)))))))))))))))
theorem b_X9_fee_0 {E : mh_E} {d mc ms : Nat} {Post : Option Value → mh_H → Prop} : mh_S (x_X9_fee E d mc ms Post) 0 (q_X9_fee_0 (x_X9_fee E d mc ms Post)) := sn_aload_n dX9_fee_0 rfl (sn_getr clX9 (by decide) w_334 dX9_fee_1 (sn_getr clX0 (by decide) w_181 dX9_fee_4 (sn_iconst dX9_fee_7 (by decide) (sn_aload_n dX9_fee_8 rfl (sn_getr clX9 (by decide) w_334 dX9_fee_9 (sn_geti clX0 (by decide) w_190 dX9_fee_12 (sn_aload_n dX9_fee_15 rfl (sn_getr clX9 (by decide) w_334 dX9_fee_16 (sn_geti clX0 (by decide) w_192 dX9_fee_19 (sn_iconst dX9_fee_22 (by decide) (sn_aload_n dX9_fee_23 rfl (sn_getr clX9 (by decide) w_334 dX9_fee_24 (sn_geti clX0 (by decide) w_190 dX9_fee_27 (sn_cv w_754 w_428 w_429 w_59 rfl nm_X2_given dX9_fee_30 (sn_iret rfl dX9_fee_33)))))))))))))))
theorem m_X9_fee {E : mh_E} {d mc ms : Nat} {args : List Value} {h : mh_H} {Post : Option Value → mh_H → Prop} (lv : List (Option Value)) (hl : lv_args 0 args = mh_al 0 lv) (hs : (lg_sl args).length ≤ 1) (hG : q_X9_fee_0 (x_X9_fee E d mc ms Post) lv [] h 0 0) : mh_M E d mc ms yX9_fee args h Post := mh_M.of w_753 (by decide) (by decide) hl hs (b_X9_fee_0 _ _ _ _ _ hG)
theorem dX9_fine_0 : decode cX9_fine 0 = .ok (.aload_n 0, 1) := by decide +kernel
theorem dX9_fine_1 : decode cX9_fine 1 = .ok (.iload_n 1, 1) := by decide +kernel
theorem dX9_fine_2 : decode cX9_fine 2 = .ok (.invokevirtual 86, 3) := by decide +kernel
theorem dX9_fine_5 : decode cX9_fine 5 = .ok (.ifCond .ne 6, 3) := by decide +kernel
theorem dX9_fine_8 : decode cX9_fine 8 = .ok (.ldc 81, 2) := by decide +kernel
theorem dX9_fine_10 : decode cX9_fine 10 = .ok (.ireturn, 1) := by decide +kernel
theorem dX9_fine_11 : decode cX9_fine 11 = .ok (.aload_n 0, 1) := by decide +kernel
theorem dX9_fine_12 : decode cX9_fine 12 = .ok (.getfield 12, 3) := by decide +kernel
theorem dX9_fine_15 : decode cX9_fine 15 = .ok (.getfield 89, 3) := by decide +kernel
theorem dX9_fine_18 : decode cX9_fine 18 = .ok (.iload_n 1, 1) := by decide +kernel
theorem dX9_fine_19 : decode cX9_fine 19 = .ok (.aaload, 1) := by decide +kernel
theorem dX9_fine_20 : decode cX9_fine 20 = .ok (.astore_n 2, 1) := by decide +kernel
theorem dX9_fine_21 : decode cX9_fine 21 = .ok (.aload_n 0, 1) := by decide +kernel
theorem dX9_fine_22 : decode cX9_fine 22 = .ok (.getfield 12, 3) := by decide +kernel
theorem dX9_fine_25 : decode cX9_fine 25 = .ok (.getfield 255, 3) := by decide +kernel
theorem dX9_fine_28 : decode cX9_fine 28 = .ok (.iconst 2, 1) := by decide +kernel
theorem dX9_fine_29 : decode cX9_fine 29 = .ok (.aload_n 2, 1) := by decide +kernel
theorem dX9_fine_30 : decode cX9_fine 30 = .ok (.getfield 107, 3) := by decide +kernel
theorem dX9_fine_33 : decode cX9_fine 33 = .ok (.aload_n 0, 1) := by decide +kernel
theorem dX9_fine_34 : decode cX9_fine 34 = .ok (.getfield 12, 3) := by decide +kernel
theorem dX9_fine_37 : decode cX9_fine 37 = .ok (.getfield 148, 3) := by decide +kernel
theorem dX9_fine_40 : decode cX9_fine 40 = .ok (.aload_n 2, 1) := by decide +kernel
theorem dX9_fine_41 : decode cX9_fine 41 = .ok (.getfield 98, 3) := by decide +kernel
theorem dX9_fine_44 : decode cX9_fine 44 = .ok (.invokevirtual 157, 3) := by decide +kernel
theorem dX9_fine_47 : decode cX9_fine 47 = .ok (.iconst 0, 1) := by decide +kernel
theorem dX9_fine_48 : decode cX9_fine 48 = .ok (.aload_n 2, 1) := by decide +kernel
theorem dX9_fine_49 : decode cX9_fine 49 = .ok (.getfield 107, 3) := by decide +kernel
theorem dX9_fine_52 : decode cX9_fine 52 = .ok (.invokevirtual 259, 3) := by decide +kernel
theorem dX9_fine_55 : decode cX9_fine 55 = .ok (.ireturn, 1) := by decide +kernel
abbrev x_X9_fine (E : mh_E) (d mc ms : Nat) (Post : Option Value → mh_H → Prop) : mh_X := (E, yX9_fine, cX9_fine, 3, (some .int), d, mc, ms, Post)
def q_X9_fine_0 (X : mh_X) : mh_PR := s_al 0 (s_il 1 (s_cv X yX9_isStone 9 1 (s_if1 (fun x => ¬ x = 0) (s_al 0 (s_gr 9 0 (s_gr 0 1 (s_il 1 (s_aald 6 (s_as 2 (s_al 0 (s_gr 9 0 (s_gr 0 2 (s_push (.int (2)) (s_al 2 (s_gi 6 4 (s_al 0 (s_gr 9 0 (s_gr 0 0 (s_al 2 (s_gi 6 1 (s_cv X yX3_rankOf 3 1 (s_push (.int (0)) (s_al 2 (s_gi 6 4 (s_cv X yX2_given 2 5 (s_iret X))))))))))))))))))))))) (s_push (.int (-1000000001)) (s_iret X)))))
theorem b_X9_fine_0 {E : mh_E} {d mc ms : Nat} {Post : Option Value → mh_H → Prop} : mh_S (x_X9_fine E d mc ms Post) 0 (q_X9_fine_0 (x_X9_fine E d mc ms Post)) := sn_aload_n dX9_fine_0 rfl (sn_iload_n dX9_fine_1 rfl (sn_cv w_398 w_400 w_0 w_56 rfl nm_X9_isStone dX9_fine_2 (sn_if_ne (tgt := 11) dX9_fine_5 (by decide) (sn_aload_n dX9_fine_11 rfl (sn_getr clX9 (by decide) w_334 dX9_fine_12 (sn_getr clX0 (by decide) w_178 dX9_fine_15 (sn_iload_n dX9_fine_18 rfl (sn_aaload (by decide) rfl dX9_fine_19 (sn_astore_n dX9_fine_20 rfl (Nat.le_of_ble_eq_true rfl) (sn_aload_n dX9_fine_21 rfl (sn_getr clX9 (by decide) w_334 dX9_fine_22 (sn_getr clX0 (by decide) w_181 dX9_fine_25 (sn_iconst dX9_fine_28 (by decide) (sn_aload_n dX9_fine_29 rfl (sn_geti clX6 (by decide) w_157 dX9_fine_30 (sn_aload_n dX9_fine_33 rfl (sn_getr clX9 (by decide) w_334 dX9_fine_34 (sn_getr clX0 (by decide) w_176 dX9_fine_37 (sn_aload_n dX9_fine_40 rfl (sn_geti clX6 (by decide) w_146 dX9_fine_41 (sn_cv w_521 w_522 w_523 w_58 rfl nm_X3_rankOf dX9_fine_44 (sn_iconst dX9_fine_47 (by decide) (sn_aload_n dX9_fine_48 rfl (sn_geti clX6 (by decide) w_157 dX9_fine_49 (sn_cv w_754 w_428 w_429 w_59 rfl nm_X2_given dX9_fine_52 (sn_iret rfl dX9_fine_55))))))))))))))))))))))) (sn_ldc dX9_fine_8 w_387 (sn_iret rfl dX9_fine_10)))))
theorem m_X9_fine {E : mh_E} {d mc ms : Nat} {args : List Value} {h : mh_H} {Post : Option Value → mh_H → Prop} (lv : List (Option Value)) (hl : lv_args 0 args = mh_al 0 lv) (hs : (lg_sl args).length ≤ 3) (hG : q_X9_fine_0 (x_X9_fine E d mc ms Post) lv [] h 0 0) : mh_M E d mc ms yX9_fine args h Post := mh_M.of w_758 (by decide) (by decide) hl hs (b_X9_fine_0 _ _ _ _ _ hG)
theorem dX9_feed_0 : decode cX9_feed 0 = .ok (.aload_n 0, 1) := by decide +kernel
theorem dX9_feed_1 : decode cX9_feed 1 = .ok (.getfield 32, 3) := by decide +kernel
theorem dX9_feed_4 : decode cX9_feed 4 = .ok (.getfield 264, 3) := by decide +kernel
theorem dX9_feed_7 : decode cX9_feed 7 = .ok (.bipush 12, 2) := by decide +kernel
theorem dX9_feed_9 : decode cX9_feed 9 = .ok (.iadd, 1) := by decide +kernel
theorem dX9_feed_10 : decode cX9_feed 10 = .ok (.bipush 96, 2) := by decide +kernel
theorem dX9_feed_12 : decode cX9_feed 12 = .ok (.if_icmp .le 7, 3) := by decide +kernel
theorem dX9_feed_15 : decode cX9_feed 15 = .ok (.ldc_w 267, 3) := by decide +kernel
theorem dX9_feed_18 : decode cX9_feed 18 = .ok (.ireturn, 1) := by decide +kernel
theorem dX9_feed_19 : decode cX9_feed 19 = .ok (.aload_n 0, 1) := by decide +kernel
theorem dX9_feed_20 : decode cX9_feed 20 = .ok (.getfield 32, 3) := by decide +kernel
theorem dX9_feed_23 : decode cX9_feed 23 = .ok (.iload_n 1, 1) := by decide +kernel
theorem dX9_feed_24 : decode cX9_feed 24 = .ok (.invokevirtual 268, 3) := by decide +kernel
theorem dX9_feed_27 : decode cX9_feed 27 = .ok (.aload_n 0, 1) := by decide +kernel
theorem dX9_feed_28 : decode cX9_feed 28 = .ok (.getfield 32, 3) := by decide +kernel
theorem dX9_feed_31 : decode cX9_feed 31 = .ok (.iload_n 2, 1) := by decide +kernel
theorem dX9_feed_32 : decode cX9_feed 32 = .ok (.invokevirtual 268, 3) := by decide +kernel
theorem dX9_feed_35 : decode cX9_feed 35 = .ok (.aload_n 0, 1) := by decide +kernel
theorem dX9_feed_36 : decode cX9_feed 36 = .ok (.getfield 32, 3) := by decide +kernel
theorem dX9_feed_39 : decode cX9_feed 39 = .ok (.iload_n 3, 1) := by decide +kernel
theorem dX9_feed_40 : decode cX9_feed 40 = .ok (.invokevirtual 268, 3) := by decide +kernel
theorem dX9_feed_43 : decode cX9_feed 43 = .ok (.aload_n 0, 1) := by decide +kernel
theorem dX9_feed_44 : decode cX9_feed 44 = .ok (.getfield 32, 3) := by decide +kernel
theorem dX9_feed_47 : decode cX9_feed 47 = .ok (.getfield 264, 3) := by decide +kernel
theorem dX9_feed_50 : decode cX9_feed 50 = .ok (.ireturn, 1) := by decide +kernel
abbrev x_X9_feed (E : mh_E) (d mc ms : Nat) (Post : Option Value → mh_H → Prop) : mh_X := (E, yX9_feed, cX9_feed, 4, (some .int), d, mc, ms, Post)
def q_X9_feed_0 (X : mh_X) : mh_PR := s_al 0 (s_gr 9 4 (s_gi 7 2 (s_push (.int (12)) (s_bin (fun x y => x + y) (s_push (.int (96)) (s_if2 (fun x y => x ≤ y) (s_al 0 (s_gr 9 4 (s_il 1 (s_cv X yX7_append 7 1 (s_al 0 (s_gr 9 4 (s_il 2 (s_cv X yX7_append 7 1 (s_al 0 (s_gr 9 4 (s_il 3 (s_cv X yX7_append 7 1 (s_al 0 (s_gr 9 4 (s_gi 7 2 (s_iret X)))))))))))))))) (s_push (.int (-1000000003)) (s_iret X))))))))
theorem b_X9_feed_0 {E : mh_E} {d mc ms : Nat} {Post : Option Value → mh_H → Prop} : mh_S (x_X9_feed E d mc ms Post) 0 (q_X9_feed_0 (x_X9_feed E d mc ms Post)) := sn_aload_n dX9_feed_0 rfl (sn_getr clX9 (by decide) w_338 dX9_feed_1 (sn_geti clX7 (by decide) w_250 dX9_feed_4 (sn_bipush dX9_feed_7 (by decide) (sn_iadd dX9_feed_9 (sn_bipush dX9_feed_10 (by decide) (sn_icmp_le (tgt := 19) dX9_feed_12 (by decide) (sn_aload_n dX9_feed_19 rfl (sn_getr clX9 (by decide) w_338 dX9_feed_20 (sn_iload_n dX9_feed_23 rfl (sn_cv w_764 w_765 w_766 w_63 rfl nm_X7_append dX9_feed_24 (sn_aload_n dX9_feed_27 rfl (sn_getr clX9 (by decide) w_338 dX9_feed_28 (sn_iload_n dX9_feed_31 rfl (sn_cv w_764 w_765 w_766 w_63 rfl nm_X7_append dX9_feed_32 (sn_aload_n dX9_feed_35 rfl (sn_getr clX9 (by decide) w_338 dX9_feed_36 (sn_iload_n dX9_feed_39 rfl (sn_cv w_764 w_765 w_766 w_63 rfl nm_X7_append dX9_feed_40 (sn_aload_n dX9_feed_43 rfl (sn_getr clX9 (by decide) w_338 dX9_feed_44 (sn_geti clX7 (by decide) w_250 dX9_feed_47 (sn_iret rfl dX9_feed_50)))))))))))))))) (sn_ldcw dX9_feed_15 w_763 (sn_iret rfl dX9_feed_18))))))))
theorem m_X9_feed {E : mh_E} {d mc ms : Nat} {args : List Value} {h : mh_H} {Post : Option Value → mh_H → Prop} (lv : List (Option Value)) (hl : lv_args 0 args = mh_al 0 lv) (hs : (lg_sl args).length ≤ 4) (hG : q_X9_feed_0 (x_X9_feed E d mc ms Post) lv [] h 0 0) : mh_M E d mc ms yX9_feed args h Post := mh_M.of w_762 (by decide) (by decide) hl hs (b_X9_feed_0 _ _ _ _ _ hG)
theorem dX9_trim_0 : decode cX9_trim 0 = .ok (.iload_n 1, 1) := by decide +kernel
theorem dX9_trim_1 : decode cX9_trim 1 = .ok (.ifCond .lt 14, 3) := by decide +kernel
theorem dX9_trim_4 : decode cX9_trim 4 = .ok (.iload_n 1, 1) := by decide +kernel
theorem dX9_trim_5 : decode cX9_trim 5 = .ok (.aload_n 0, 1) := by decide +kernel
theorem dX9_trim_6 : decode cX9_trim 6 = .ok (.getfield 32, 3) := by decide +kernel
theorem dX9_trim_9 : decode cX9_trim 9 = .ok (.getfield 264, 3) := by decide +kernel
theorem dX9_trim_12 : decode cX9_trim 12 = .ok (.if_icmp .le 6, 3) := by decide +kernel
theorem dX9_trim_15 : decode cX9_trim 15 = .ok (.ldc 81, 2) := by decide +kernel
theorem dX9_trim_17 : decode cX9_trim 17 = .ok (.ireturn, 1) := by decide +kernel
theorem dX9_trim_18 : decode cX9_trim 18 = .ok (.aload_n 0, 1) := by decide +kernel
theorem dX9_trim_19 : decode cX9_trim 19 = .ok (.getfield 32, 3) := by decide +kernel
theorem dX9_trim_22 : decode cX9_trim 22 = .ok (.iload_n 1, 1) := by decide +kernel
theorem dX9_trim_23 : decode cX9_trim 23 = .ok (.putfield 264, 3) := by decide +kernel
theorem dX9_trim_26 : decode cX9_trim 26 = .ok (.iload_n 1, 1) := by decide +kernel
theorem dX9_trim_27 : decode cX9_trim 27 = .ok (.ireturn, 1) := by decide +kernel
abbrev x_X9_trim (E : mh_E) (d mc ms : Nat) (Post : Option Value → mh_H → Prop) : mh_X := (E, yX9_trim, cX9_trim, 2, (some .int), d, mc, ms, Post)
def q_X9_trim_15 (X : mh_X) : mh_PR := s_push (.int (-1000000001)) (s_iret X)
theorem b_X9_trim_15 {E : mh_E} {d mc ms : Nat} {Post : Option Value → mh_H → Prop} : mh_S (x_X9_trim E d mc ms Post) 15 (q_X9_trim_15 (x_X9_trim E d mc ms Post)) := sn_ldc dX9_trim_15 w_387 (sn_iret rfl dX9_trim_17)
def q_X9_trim_0 (X : mh_X) : mh_PR := s_il 1 (s_if1 (fun x => x < 0) (q_X9_trim_15 X) (s_il 1 (s_al 0 (s_gr 9 4 (s_gi 7 2 (s_if2 (fun x y => x ≤ y) (s_al 0 (s_gr 9 4 (s_il 1 (s_pi 7 2 (s_il 1 (s_iret X)))))) (q_X9_trim_15 X)))))))
theorem b_X9_trim_0 {E : mh_E} {d mc ms : Nat} {Post : Option Value → mh_H → Prop} : mh_S (x_X9_trim E d mc ms Post) 0 (q_X9_trim_0 (x_X9_trim E d mc ms Post)) := sn_iload_n dX9_trim_0 rfl (sn_if_lt (tgt := 15) dX9_trim_1 (by decide) (b_X9_trim_15) (sn_iload_n dX9_trim_4 rfl (sn_aload_n dX9_trim_5 rfl (sn_getr clX9 (by decide) w_338 dX9_trim_6 (sn_geti clX7 (by decide) w_250 dX9_trim_9 (sn_icmp_le (tgt := 18) dX9_trim_12 (by decide) (sn_aload_n dX9_trim_18 rfl (sn_getr clX9 (by decide) w_338 dX9_trim_19 (sn_iload_n dX9_trim_22 rfl (sn_puti clX7 (by decide) w_250 rfl rfl dX9_trim_23 (sn_iload_n dX9_trim_26 rfl (sn_iret rfl dX9_trim_27)))))) (b_X9_trim_15)))))))
theorem m_X9_trim {E : mh_E} {d mc ms : Nat} {args : List Value} {h : mh_H} {Post : Option Value → mh_H → Prop} (lv : List (Option Value)) (hl : lv_args 0 args = mh_al 0 lv) (hs : (lg_sl args).length ≤ 2) (hG : q_X9_trim_0 (x_X9_trim E d mc ms Post) lv [] h 0 0) : mh_M E d mc ms yX9_trim args h Post := mh_M.of w_771 (by decide) (by decide) hl hs (b_X9_trim_0 _ _ _ _ _ hG)
theorem dX9_text_0 : decode cX9_text 0 = .ok (.aload_n 0, 1) := by decide +kernel
theorem dX9_text_1 : decode cX9_text 1 = .ok (.getfield 32, 3) := by decide +kernel
theorem dX9_text_4 : decode cX9_text 4 = .ok (.invokevirtual 271, 3) := by decide +kernel
theorem dX9_text_7 : decode cX9_text 7 = .ok (.aload_n 0, 1) := by decide +kernel
theorem dX9_text_8 : decode cX9_text 8 = .ok (.getfield 32, 3) := by decide +kernel
theorem dX9_text_11 : decode cX9_text 11 = .ok (.iconst 0, 1) := by decide +kernel
theorem dX9_text_12 : decode cX9_text 12 = .ok (.putfield 264, 3) := by decide +kernel
theorem dX9_text_15 : decode cX9_text 15 = .ok (.aload_n 0, 1) := by decide +kernel
theorem dX9_text_16 : decode cX9_text 16 = .ok (.getfield 32, 3) := by decide +kernel
theorem dX9_text_19 : decode cX9_text 19 = .ok (.getfield 274, 3) := by decide +kernel
theorem dX9_text_22 : decode cX9_text 22 = .ok (.ifCond .lt 14, 3) := by decide +kernel
theorem dX9_text_25 : decode cX9_text 25 = .ok (.bipush (-100), 2) := by decide +kernel
theorem dX9_text_27 : decode cX9_text 27 = .ok (.aload_n 0, 1) := by decide +kernel
theorem dX9_text_28 : decode cX9_text 28 = .ok (.getfield 32, 3) := by decide +kernel
theorem dX9_text_31 : decode cX9_text 31 = .ok (.getfield 274, 3) := by decide +kernel
theorem dX9_text_34 : decode cX9_text 34 = .ok (.isub, 1) := by decide +kernel
theorem dX9_text_35 : decode cX9_text 35 = .ok (.ireturn, 1) := by decide +kernel
theorem dX9_text_36 : decode cX9_text 36 = .ok (.aload_n 0, 1) := by decide +kernel
theorem dX9_text_37 : decode cX9_text 37 = .ok (.getfield 12, 3) := by decide +kernel
theorem dX9_text_40 : decode cX9_text 40 = .ok (.getfield 255, 3) := by decide +kernel
theorem dX9_text_43 : decode cX9_text 43 = .ok (.aload_n 0, 1) := by decide +kernel
theorem dX9_text_44 : decode cX9_text 44 = .ok (.getfield 32, 3) := by decide +kernel
theorem dX9_text_47 : decode cX9_text 47 = .ok (.invokevirtual 277, 3) := by decide +kernel
theorem dX9_text_50 : decode cX9_text 50 = .ok (.invokevirtual 281, 3) := by decide +kernel
theorem dX9_text_53 : decode cX9_text 53 = .ok (.ireturn, 1) := by decide +kernel
abbrev x_X9_text (E : mh_E) (d mc ms : Nat) (Post : Option Value → mh_H → Prop) : mh_X := (E, yX9_text, cX9_text, 1, (some .int), d, mc, ms, Post)
def q_X9_text_0 (X : mh_X) : mh_PR := s_al 0 (s_gr 9 4 (s_cv X yX7_parse 7 0 (s_al 0 (s_gr 9 4 (s_push (.int (0)) (s_pi 7 2 (s_al 0 (s_gr 9 4 (s_gi 7 3 (s_if1 (fun x => x < 0) (s_al 0 (s_gr 9 0 (s_gr 0 2 (s_al 0 (s_gr 9 4 (s_cv X yX7_parsed 7 0 (s_cv X yX2_enact 2 1 (s_iret X)))))))) (s_push (.int (-100)) (s_al 0 (s_gr 9 4 (s_gi 7 3 (s_bin (fun x y => x - y) (s_iret X))))))))))))))))
theorem b_X9_text_0 {E : mh_E} {d mc ms : Nat} {Post : Option Value → mh_H → Prop} : mh_S (x_X9_text E d mc ms Post) 0 (q_X9_text_0 (x_X9_text E d mc ms Post)) := sn_aload_n dX9_text_0 rfl (sn_getr clX9 (by decide) w_338 dX9_text_1 (sn_cv w_776 w_777 w_778 w_63 rfl nm_X7_parse dX9_text_4 (sn_aload_n dX9_text_7 rfl (sn_getr clX9 (by decide) w_338 dX9_text_8 (sn_iconst dX9_text_11 (by decide) (sn_puti clX7 (by decide) w_250 rfl rfl dX9_text_12 (sn_aload_n dX9_text_15 rfl (sn_getr clX9 (by decide) w_338 dX9_text_16 (sn_geti clX7 (by decide) w_252 dX9_text_19 (sn_if_lt (tgt := 36) dX9_text_22 (by decide) (sn_aload_n dX9_text_36 rfl (sn_getr clX9 (by decide) w_334 dX9_text_37 (sn_getr clX0 (by decide) w_181 dX9_text_40 (sn_aload_n dX9_text_43 rfl (sn_getr clX9 (by decide) w_338 dX9_text_44 (sn_cv w_957 w_958 w_959 w_63 rfl nm_X7_parsed dX9_text_47 (sn_cv w_998 w_999 w_1000 w_59 rfl nm_X2_enact dX9_text_50 (sn_iret rfl dX9_text_53)))))))) (sn_bipush dX9_text_25 (by decide) (sn_aload_n dX9_text_27 rfl (sn_getr clX9 (by decide) w_338 dX9_text_28 (sn_geti clX7 (by decide) w_252 dX9_text_31 (sn_isub dX9_text_34 (sn_iret rfl dX9_text_35))))))))))))))))
theorem m_X9_text {E : mh_E} {d mc ms : Nat} {args : List Value} {h : mh_H} {Post : Option Value → mh_H → Prop} (lv : List (Option Value)) (hl : lv_args 0 args = mh_al 0 lv) (hs : (lg_sl args).length ≤ 1) (hG : q_X9_text_0 (x_X9_text E d mc ms Post) lv [] h 0 0) : mh_M E d mc ms yX9_text args h Post := mh_M.of w_775 (by decide) (by decide) hl hs (b_X9_text_0 _ _ _ _ _ hG)
theorem dX9_textTold_0 : decode cX9_textTold 0 = .ok (.aload_n 0, 1) := by decide +kernel
theorem dX9_textTold_1 : decode cX9_textTold 1 = .ok (.getfield 12, 3) := by decide +kernel
theorem dX9_textTold_4 : decode cX9_textTold 4 = .ok (.getfield 255, 3) := by decide +kernel
theorem dX9_textTold_7 : decode cX9_textTold 7 = .ok (.iload_n 1, 1) := by decide +kernel
theorem dX9_textTold_8 : decode cX9_textTold 8 = .ok (.invokevirtual 285, 3) := by decide +kernel
theorem dX9_textTold_11 : decode cX9_textTold 11 = .ok (.astore_n 3, 1) := by decide +kernel
theorem dX9_textTold_12 : decode cX9_textTold 12 = .ok (.aload_n 3, 1) := by decide +kernel
theorem dX9_textTold_13 : decode cX9_textTold 13 = .ok (.ifnonnull 6, 3) := by decide +kernel
theorem dX9_textTold_16 : decode cX9_textTold 16 = .ok (.ldc 81, 2) := by decide +kernel
theorem dX9_textTold_18 : decode cX9_textTold 18 = .ok (.ireturn, 1) := by decide +kernel
theorem dX9_textTold_19 : decode cX9_textTold 19 = .ok (.iload_n 2, 1) := by decide +kernel
theorem dX9_textTold_20 : decode cX9_textTold 20 = .ok (.lookupswitch 38 #[(0, 28), (1, 33)], 28) := by decide +kernel
theorem dX9_textTold_48 : decode cX9_textTold 48 = .ok (.aload_n 3, 1) := by decide +kernel
theorem dX9_textTold_49 : decode cX9_textTold 49 = .ok (.getfield 289, 3) := by decide +kernel
theorem dX9_textTold_52 : decode cX9_textTold 52 = .ok (.ireturn, 1) := by decide +kernel
theorem dX9_textTold_53 : decode cX9_textTold 53 = .ok (.aload_n 3, 1) := by decide +kernel
theorem dX9_textTold_54 : decode cX9_textTold 54 = .ok (.getfield 294, 3) := by decide +kernel
theorem dX9_textTold_57 : decode cX9_textTold 57 = .ok (.ireturn, 1) := by decide +kernel
theorem dX9_textTold_58 : decode cX9_textTold 58 = .ok (.ldc 81, 2) := by decide +kernel
theorem dX9_textTold_60 : decode cX9_textTold 60 = .ok (.ireturn, 1) := by decide +kernel
abbrev x_X9_textTold (E : mh_E) (d mc ms : Nat) (Post : Option Value → mh_H → Prop) : mh_X := (E, yX9_textTold, cX9_textTold, 4, (some .int), d, mc, ms, Post)
def q_X9_textTold_0 (X : mh_X) : mh_PR := s_al 0 (s_gr 9 0 (s_gr 0 2 (s_il 1 (s_cv X yX2_numbered 2 1 (s_as 3 (s_al 3 (s_ifn (s_push (.int (-1000000001)) (s_iret X)) (s_il 2 (s_sw [((0 : Int32), s_al 3 (s_gi 8 0 (s_iret X))), ((1 : Int32), s_al 3 (s_gi 8 1 (s_iret X)))] (s_push (.int (-1000000001)) (s_iret X)))))))))))
theorem b_X9_textTold_0 {E : mh_E} {d mc ms : Nat} {Post : Option Value → mh_H → Prop} : mh_S (x_X9_textTold E d mc ms Post) 0 (q_X9_textTold_0 (x_X9_textTold E d mc ms Post)) := sn_aload_n dX9_textTold_0 rfl (sn_getr clX9 (by decide) w_334 dX9_textTold_1 (sn_getr clX0 (by decide) w_181 dX9_textTold_4 (sn_iload_n dX9_textTold_7 rfl (sn_cv w_1007 w_436 w_437 w_59 rfl nm_X2_numbered dX9_textTold_8 (sn_astore_n dX9_textTold_11 rfl (Nat.le_of_ble_eq_true rfl) (sn_aload_n dX9_textTold_12 rfl (sn_ifnonnull (tgt := 19) dX9_textTold_13 (by decide) (sn_iload_n dX9_textTold_19 rfl (sn_lookup (tgt := 58) (ts := [(0, 28, 48), (1, 33, 53)]) dX9_textTold_20 (by decide +kernel) (by decide +kernel) (by decide +kernel) (sw_cons (sn_aload_n dX9_textTold_48 rfl (sn_geti clX8 (by decide) w_980 dX9_textTold_49 (sn_iret rfl dX9_textTold_52))) (sw_cons (sn_aload_n dX9_textTold_53 rfl (sn_geti clX8 (by decide) w_982 dX9_textTold_54 (sn_iret rfl dX9_textTold_57))) sw_nil)) (by decide) (sn_ldc dX9_textTold_58 w_387 (sn_iret rfl dX9_textTold_60)))) (sn_ldc dX9_textTold_16 w_387 (sn_iret rfl dX9_textTold_18)))))))))
theorem m_X9_textTold {E : mh_E} {d mc ms : Nat} {args : List Value} {h : mh_H} {Post : Option Value → mh_H → Prop} (lv : List (Option Value)) (hl : lv_args 0 args = mh_al 0 lv) (hs : (lg_sl args).length ≤ 4) (hG : q_X9_textTold_0 (x_X9_textTold E d mc ms Post) lv [] h 0 0) : mh_M E d mc ms yX9_textTold args h Post := mh_M.of w_1006 (by decide) (by decide) hl hs (b_X9_textTold_0 _ _ _ _ _ hG)
theorem dX9_why_0 : decode cX9_why 0 = .ok (.iload_n 1, 1) := by decide +kernel
theorem dX9_why_1 : decode cX9_why 1 = .ok (.ifCond .lt 8, 3) := by decide +kernel
theorem dX9_why_4 : decode cX9_why 4 = .ok (.iload_n 1, 1) := by decide +kernel
theorem dX9_why_5 : decode cX9_why 5 = .ok (.iconst 3, 1) := by decide +kernel
theorem dX9_why_6 : decode cX9_why 6 = .ok (.if_icmp .lt 8, 3) := by decide +kernel
theorem dX9_why_9 : decode cX9_why 9 = .ok (.ldc 81, 2) := by decide +kernel
theorem dX9_why_11 : decode cX9_why 11 = .ok (.goto 14, 3) := by decide +kernel
theorem dX9_why_14 : decode cX9_why 14 = .ok (.aload_n 0, 1) := by decide +kernel
theorem dX9_why_15 : decode cX9_why 15 = .ok (.getfield 12, 3) := by decide +kernel
theorem dX9_why_18 : decode cX9_why 18 = .ok (.getfield 255, 3) := by decide +kernel
theorem dX9_why_21 : decode cX9_why 21 = .ok (.iload_n 1, 1) := by decide +kernel
theorem dX9_why_22 : decode cX9_why 22 = .ok (.invokevirtual 297, 3) := by decide +kernel
theorem dX9_why_25 : decode cX9_why 25 = .ok (.ireturn, 1) := by decide +kernel
abbrev x_X9_why (E : mh_E) (d mc ms : Nat) (Post : Option Value → mh_H → Prop) : mh_X := (E, yX9_why, cX9_why, 2, (some .int), d, mc, ms, Post)
def q_X9_why_25 (X : mh_X) : mh_PR := s_iret X
theorem b_X9_why_25 {E : mh_E} {d mc ms : Nat} {Post : Option Value → mh_H → Prop} : mh_S (x_X9_why E d mc ms Post) 25 (q_X9_why_25 (x_X9_why E d mc ms Post)) := sn_iret rfl dX9_why_25
def q_X9_why_9 (X : mh_X) : mh_PR := s_push (.int (-1000000001)) (q_X9_why_25 X)
theorem b_X9_why_9 {E : mh_E} {d mc ms : Nat} {Post : Option Value → mh_H → Prop} : mh_S (x_X9_why E d mc ms Post) 9 (q_X9_why_9 (x_X9_why E d mc ms Post)) := sn_ldc dX9_why_9 w_387 (sn_goto (tgt := 25) dX9_why_11 (by decide) (b_X9_why_25))
def q_X9_why_0 (X : mh_X) : mh_PR := s_il 1 (s_if1 (fun x => x < 0) (q_X9_why_9 X) (s_il 1 (s_push (.int (3)) (s_if2 (fun x y => x < y) (s_al 0 (s_gr 9 0 (s_gr 0 2 (s_il 1 (s_cv X yX2_lastOf 2 1 (q_X9_why_25 X)))))) (q_X9_why_9 X)))))
theorem b_X9_why_0 {E : mh_E} {d mc ms : Nat} {Post : Option Value → mh_H → Prop} : mh_S (x_X9_why E d mc ms Post) 0 (q_X9_why_0 (x_X9_why E d mc ms Post)) := sn_iload_n dX9_why_0 rfl (sn_if_lt (tgt := 9) dX9_why_1 (by decide) (b_X9_why_9) (sn_iload_n dX9_why_4 rfl (sn_iconst dX9_why_5 (by decide) (sn_icmp_lt (tgt := 14) dX9_why_6 (by decide) (sn_aload_n dX9_why_14 rfl (sn_getr clX9 (by decide) w_334 dX9_why_15 (sn_getr clX0 (by decide) w_181 dX9_why_18 (sn_iload_n dX9_why_21 rfl (sn_cv w_1012 w_432 w_433 w_59 rfl nm_X2_lastOf dX9_why_22 b_X9_why_25))))) (b_X9_why_9)))))
theorem m_X9_why {E : mh_E} {d mc ms : Nat} {args : List Value} {h : mh_H} {Post : Option Value → mh_H → Prop} (lv : List (Option Value)) (hl : lv_args 0 args = mh_al 0 lv) (hs : (lg_sl args).length ≤ 2) (hG : q_X9_why_0 (x_X9_why E d mc ms Post) lv [] h 0 0) : mh_M E d mc ms yX9_why args h Post := mh_M.of w_1011 (by decide) (by decide) hl hs (b_X9_why_0 _ _ _ _ _ hG)
theorem dX9_sheet_0 : decode cX9_sheet 0 = .ok (.iload_n 1, 1) := by decide +kernel
theorem dX9_sheet_1 : decode cX9_sheet 1 = .ok (.invokestatic 244, 3) := by decide +kernel
theorem dX9_sheet_4 : decode cX9_sheet 4 = .ok (.ifCond .eq 13, 3) := by decide +kernel
theorem dX9_sheet_7 : decode cX9_sheet 7 = .ok (.iload_n 2, 1) := by decide +kernel
theorem dX9_sheet_8 : decode cX9_sheet 8 = .ok (.iconst (-1), 1) := by decide +kernel
theorem dX9_sheet_9 : decode cX9_sheet 9 = .ok (.if_icmp .lt 8, 3) := by decide +kernel
theorem dX9_sheet_12 : decode cX9_sheet 12 = .ok (.iload_n 2, 1) := by decide +kernel
theorem dX9_sheet_13 : decode cX9_sheet 13 = .ok (.iconst 1, 1) := by decide +kernel
theorem dX9_sheet_14 : decode cX9_sheet 14 = .ok (.if_icmp .le 6, 3) := by decide +kernel
theorem dX9_sheet_17 : decode cX9_sheet 17 = .ok (.ldc 81, 2) := by decide +kernel
theorem dX9_sheet_19 : decode cX9_sheet 19 = .ok (.ireturn, 1) := by decide +kernel
theorem dX9_sheet_20 : decode cX9_sheet 20 = .ok (.iload_n 2, 1) := by decide +kernel
theorem dX9_sheet_21 : decode cX9_sheet 21 = .ok (.iconst (-1), 1) := by decide +kernel
theorem dX9_sheet_22 : decode cX9_sheet 22 = .ok (.if_icmp .ne 16, 3) := by decide +kernel
theorem dX9_sheet_25 : decode cX9_sheet 25 = .ok (.aload_n 0, 1) := by decide +kernel
theorem dX9_sheet_26 : decode cX9_sheet 26 = .ok (.getfield 38, 3) := by decide +kernel
theorem dX9_sheet_29 : decode cX9_sheet 29 = .ok (.iload_n 1, 1) := by decide +kernel
theorem dX9_sheet_30 : decode cX9_sheet 30 = .ok (.aaload, 1) := by decide +kernel
theorem dX9_sheet_31 : decode cX9_sheet 31 = .ok (.iconst (-1), 1) := by decide +kernel
theorem dX9_sheet_32 : decode cX9_sheet 32 = .ok (.iconst 0, 1) := by decide +kernel
theorem dX9_sheet_33 : decode cX9_sheet 33 = .ok (.invokevirtual 300, 3) := by decide +kernel
theorem dX9_sheet_36 : decode cX9_sheet 36 = .ok (.iconst 0, 1) := by decide +kernel
theorem dX9_sheet_37 : decode cX9_sheet 37 = .ok (.ireturn, 1) := by decide +kernel
theorem dX9_sheet_38 : decode cX9_sheet 38 = .ok (.iload_n 3, 1) := by decide +kernel
theorem dX9_sheet_39 : decode cX9_sheet 39 = .ok (.bipush 24, 2) := by decide +kernel
theorem dX9_sheet_41 : decode cX9_sheet 41 = .ok (.if_icmp .le 6, 3) := by decide +kernel
theorem dX9_sheet_44 : decode cX9_sheet 44 = .ok (.ldc 81, 2) := by decide +kernel
theorem dX9_sheet_46 : decode cX9_sheet 46 = .ok (.ireturn, 1) := by decide +kernel
theorem dX9_sheet_47 : decode cX9_sheet 47 = .ok (.iload_n 3, 1) := by decide +kernel
theorem dX9_sheet_48 : decode cX9_sheet 48 = .ok (.ifCond .ge 7, 3) := by decide +kernel
theorem dX9_sheet_51 : decode cX9_sheet 51 = .ok (.ldc_w 303, 3) := by decide +kernel
theorem dX9_sheet_54 : decode cX9_sheet 54 = .ok (.ireturn, 1) := by decide +kernel
theorem dX9_sheet_55 : decode cX9_sheet 55 = .ok (.aload_n 0, 1) := by decide +kernel
theorem dX9_sheet_56 : decode cX9_sheet 56 = .ok (.getfield 38, 3) := by decide +kernel
theorem dX9_sheet_59 : decode cX9_sheet 59 = .ok (.iload_n 1, 1) := by decide +kernel
theorem dX9_sheet_60 : decode cX9_sheet 60 = .ok (.aaload, 1) := by decide +kernel
theorem dX9_sheet_61 : decode cX9_sheet 61 = .ok (.iload_n 2, 1) := by decide +kernel
theorem dX9_sheet_62 : decode cX9_sheet 62 = .ok (.iload_n 3, 1) := by decide +kernel
theorem dX9_sheet_63 : decode cX9_sheet 63 = .ok (.invokevirtual 300, 3) := by decide +kernel
theorem dX9_sheet_66 : decode cX9_sheet 66 = .ok (.iload_n 3, 1) := by decide +kernel
theorem dX9_sheet_67 : decode cX9_sheet 67 = .ok (.ireturn, 1) := by decide +kernel
abbrev x_X9_sheet (E : mh_E) (d mc ms : Nat) (Post : Option Value → mh_H → Prop) : mh_X := (E, yX9_sheet, cX9_sheet, 4, (some .int), d, mc, ms, Post)
def q_X9_sheet_17 (X : mh_X) : mh_PR := s_push (.int (-1000000001)) (s_iret X)
theorem b_X9_sheet_17 {E : mh_E} {d mc ms : Nat} {Post : Option Value → mh_H → Prop} : mh_S (x_X9_sheet E d mc ms Post) 17 (q_X9_sheet_17 (x_X9_sheet E d mc ms Post)) := sn_ldc dX9_sheet_17 w_387 (sn_iret rfl dX9_sheet_19)
def q_X9_sheet_0 (X : mh_X) : mh_PR := s_il 1 (s_cs X yX9_isSheet 1 (s_if1 (fun x => x = 0) (q_X9_sheet_17 X) (s_il 2 (s_push (.int (-1)) (s_if2 (fun x y => x < y) (q_X9_sheet_17 X) (s_il 2 (s_push (.int (1)) (s_if2 (fun x y => x ≤ y) (s_il 2 (s_push (.int (-1)) (s_if2 (fun x y => ¬ x = y) (s_il 3 (s_push (.int (24)) (s_if2 (fun x y => x ≤ y) (s_il 3 (s_if1 (fun x => 0 ≤ x) (s_al 0 (s_gr 9 5 (s_il 1 (s_aald 4 (s_il 2 (s_il 3 (s_cv X yX4_clear 4 2 (s_il 3 (s_iret X))))))))) (s_push (.int (-1000000014)) (s_iret X)))) (s_push (.int (-1000000001)) (s_iret X))))) (s_al 0 (s_gr 9 5 (s_il 1 (s_aald 4 (s_push (.int (-1)) (s_push (.int (0)) (s_cv X yX4_clear 4 2 (s_push (.int (0)) (s_iret X)))))))))))) (q_X9_sheet_17 X)))))))))
theorem b_X9_sheet_0 {E : mh_E} {d mc ms : Nat} {Post : Option Value → mh_H → Prop} : mh_S (x_X9_sheet E d mc ms Post) 0 (q_X9_sheet_0 (x_X9_sheet E d mc ms Post)) := sn_iload_n dX9_sheet_0 rfl (sn_cs w_726 w_727 w_56 nm_X9_isSheet dX9_sheet_1 (sn_if_eq (tgt := 17) dX9_sheet_4 (by decide) (b_X9_sheet_17) (sn_iload_n dX9_sheet_7 rfl (sn_iconst dX9_sheet_8 (by decide) (sn_icmp_lt (tgt := 17) dX9_sheet_9 (by decide) (b_X9_sheet_17) (sn_iload_n dX9_sheet_12 rfl (sn_iconst dX9_sheet_13 (by decide) (sn_icmp_le (tgt := 20) dX9_sheet_14 (by decide) (sn_iload_n dX9_sheet_20 rfl (sn_iconst dX9_sheet_21 (by decide) (sn_icmp_ne (tgt := 38) dX9_sheet_22 (by decide) (sn_iload_n dX9_sheet_38 rfl (sn_bipush dX9_sheet_39 (by decide) (sn_icmp_le (tgt := 47) dX9_sheet_41 (by decide) (sn_iload_n dX9_sheet_47 rfl (sn_if_ge (tgt := 55) dX9_sheet_48 (by decide) (sn_aload_n dX9_sheet_55 rfl (sn_getr clX9 (by decide) w_339 dX9_sheet_56 (sn_iload_n dX9_sheet_59 rfl (sn_aaload (by decide) rfl dX9_sheet_60 (sn_iload_n dX9_sheet_61 rfl (sn_iload_n dX9_sheet_62 rfl (sn_cv w_1017 w_1018 w_1019 w_64 rfl nm_X4_clear dX9_sheet_63 (sn_iload_n dX9_sheet_66 rfl (sn_iret rfl dX9_sheet_67))))))))) (sn_ldcw dX9_sheet_51 w_1022 (sn_iret rfl dX9_sheet_54)))) (sn_ldc dX9_sheet_44 w_387 (sn_iret rfl dX9_sheet_46))))) (sn_aload_n dX9_sheet_25 rfl (sn_getr clX9 (by decide) w_339 dX9_sheet_26 (sn_iload_n dX9_sheet_29 rfl (sn_aaload (by decide) rfl dX9_sheet_30 (sn_iconst dX9_sheet_31 (by decide) (sn_iconst dX9_sheet_32 (by decide) (sn_cv w_1017 w_1018 w_1019 w_64 rfl nm_X4_clear dX9_sheet_33 (sn_iconst dX9_sheet_36 (by decide) (sn_iret rfl dX9_sheet_37)))))))))))) (b_X9_sheet_17)))))))))
theorem m_X9_sheet {E : mh_E} {d mc ms : Nat} {args : List Value} {h : mh_H} {Post : Option Value → mh_H → Prop} (lv : List (Option Value)) (hl : lv_args 0 args = mh_al 0 lv) (hs : (lg_sl args).length ≤ 4) (hG : q_X9_sheet_0 (x_X9_sheet E d mc ms Post) lv [] h 0 0) : mh_M E d mc ms yX9_sheet args h Post := mh_M.of w_1016 (by decide) (by decide) hl hs (b_X9_sheet_0 _ _ _ _ _ hG)
theorem dX9_mark_0 : decode cX9_mark 0 = .ok (.iload_n 1, 1) := by decide +kernel
theorem dX9_mark_1 : decode cX9_mark 1 = .ok (.invokestatic 244, 3) := by decide +kernel
theorem dX9_mark_4 : decode cX9_mark 4 = .ok (.ifCond .ne 6, 3) := by decide +kernel
theorem dX9_mark_7 : decode cX9_mark 7 = .ok (.ldc 81, 2) := by decide +kernel
theorem dX9_mark_9 : decode cX9_mark 9 = .ok (.ireturn, 1) := by decide +kernel
theorem dX9_mark_10 : decode cX9_mark 10 = .ok (.aload_n 0, 1) := by decide +kernel
theorem dX9_mark_11 : decode cX9_mark 11 = .ok (.getfield 38, 3) := by decide +kernel
theorem dX9_mark_14 : decode cX9_mark 14 = .ok (.iload_n 1, 1) := by decide +kernel
theorem dX9_mark_15 : decode cX9_mark 15 = .ok (.aaload, 1) := by decide +kernel
theorem dX9_mark_16 : decode cX9_mark 16 = .ok (.astore 4, 2) := by decide +kernel
theorem dX9_mark_18 : decode cX9_mark 18 = .ok (.aload 4, 2) := by decide +kernel
theorem dX9_mark_20 : decode cX9_mark 20 = .ok (.invokevirtual 247, 3) := by decide +kernel
theorem dX9_mark_23 : decode cX9_mark 23 = .ok (.ifCond .eq 6, 3) := by decide +kernel
theorem dX9_mark_26 : decode cX9_mark 26 = .ok (.ldc 250, 2) := by decide +kernel
theorem dX9_mark_28 : decode cX9_mark 28 = .ok (.ireturn, 1) := by decide +kernel
theorem dX9_mark_29 : decode cX9_mark 29 = .ok (.aload 4, 2) := by decide +kernel
theorem dX9_mark_31 : decode cX9_mark 31 = .ok (.iload_n 2, 1) := by decide +kernel
theorem dX9_mark_32 : decode cX9_mark 32 = .ok (.invokevirtual 304, 3) := by decide +kernel
theorem dX9_mark_35 : decode cX9_mark 35 = .ok (.ifCond .ne 7, 3) := by decide +kernel
theorem dX9_mark_38 : decode cX9_mark 38 = .ok (.ldc_w 307, 3) := by decide +kernel
theorem dX9_mark_41 : decode cX9_mark 41 = .ok (.ireturn, 1) := by decide +kernel
theorem dX9_mark_42 : decode cX9_mark 42 = .ok (.aload 4, 2) := by decide +kernel
theorem dX9_mark_44 : decode cX9_mark 44 = .ok (.getfield 308, 3) := by decide +kernel
theorem dX9_mark_47 : decode cX9_mark 47 = .ok (.ifCond .ne 23, 3) := by decide +kernel
theorem dX9_mark_50 : decode cX9_mark 50 = .ok (.iload_n 3, 1) := by decide +kernel
theorem dX9_mark_51 : decode cX9_mark 51 = .ok (.ldc 147, 2) := by decide +kernel
theorem dX9_mark_53 : decode cX9_mark 53 = .ok (.if_icmp .ne 6, 3) := by decide +kernel
theorem dX9_mark_56 : decode cX9_mark 56 = .ok (.ldc 128, 2) := by decide +kernel
theorem dX9_mark_58 : decode cX9_mark 58 = .ok (.ireturn, 1) := by decide +kernel
theorem dX9_mark_59 : decode cX9_mark 59 = .ok (.aload 4, 2) := by decide +kernel
theorem dX9_mark_61 : decode cX9_mark 61 = .ok (.getfield 311, 3) := by decide +kernel
theorem dX9_mark_64 : decode cX9_mark 64 = .ok (.iload_n 2, 1) := by decide +kernel
theorem dX9_mark_65 : decode cX9_mark 65 = .ok (.iload_n 3, 1) := by decide +kernel
theorem dX9_mark_66 : decode cX9_mark 66 = .ok (.i2s, 1) := by decide +kernel
theorem dX9_mark_67 : decode cX9_mark 67 = .ok (.iastore, 1) := by decide +kernel
theorem dX9_mark_68 : decode cX9_mark 68 = .ok (.iconst 1, 1) := by decide +kernel
theorem dX9_mark_69 : decode cX9_mark 69 = .ok (.ireturn, 1) := by decide +kernel
theorem dX9_mark_70 : decode cX9_mark 70 = .ok (.iload_n 3, 1) := by decide +kernel
theorem dX9_mark_71 : decode cX9_mark 71 = .ok (.ldc 147, 2) := by decide +kernel
theorem dX9_mark_73 : decode cX9_mark 73 = .ok (.if_icmp .eq 20, 3) := by decide +kernel
theorem dX9_mark_76 : decode cX9_mark 76 = .ok (.iload_n 3, 1) := by decide +kernel
theorem dX9_mark_77 : decode cX9_mark 77 = .ok (.ldc_w 314, 3) := by decide +kernel
theorem dX9_mark_80 : decode cX9_mark 80 = .ok (.if_icmp .lt 10, 3) := by decide +kernel
theorem dX9_mark_83 : decode cX9_mark 83 = .ok (.iload_n 3, 1) := by decide +kernel
theorem dX9_mark_84 : decode cX9_mark 84 = .ok (.ldc_w 315, 3) := by decide +kernel
theorem dX9_mark_87 : decode cX9_mark 87 = .ok (.if_icmp .le 6, 3) := by decide +kernel
theorem dX9_mark_90 : decode cX9_mark 90 = .ok (.ldc 81, 2) := by decide +kernel
theorem dX9_mark_92 : decode cX9_mark 92 = .ok (.ireturn, 1) := by decide +kernel
theorem dX9_mark_93 : decode cX9_mark 93 = .ok (.aload 4, 2) := by decide +kernel
theorem dX9_mark_95 : decode cX9_mark 95 = .ok (.getfield 311, 3) := by decide +kernel
theorem dX9_mark_98 : decode cX9_mark 98 = .ok (.iload_n 2, 1) := by decide +kernel
theorem dX9_mark_99 : decode cX9_mark 99 = .ok (.iload_n 3, 1) := by decide +kernel
theorem dX9_mark_100 : decode cX9_mark 100 = .ok (.iastore, 1) := by decide +kernel
theorem dX9_mark_101 : decode cX9_mark 101 = .ok (.iconst 1, 1) := by decide +kernel
theorem dX9_mark_102 : decode cX9_mark 102 = .ok (.ireturn, 1) := by decide +kernel
abbrev x_X9_mark (E : mh_E) (d mc ms : Nat) (Post : Option Value → mh_H → Prop) : mh_X := (E, yX9_mark, cX9_mark, 5, (some .int), d, mc, ms, Post)
def q_X9_mark_93 (X : mh_X) : mh_PR := s_al 4 (s_gr 4 0 (s_il 2 (s_il 3 (s_ast 0 (fun x => x) (s_push (.int (1)) (s_iret X))))))
theorem b_X9_mark_93 {E : mh_E} {d mc ms : Nat} {Post : Option Value → mh_H → Prop} : mh_S (x_X9_mark E d mc ms Post) 93 (q_X9_mark_93 (x_X9_mark E d mc ms Post)) := sn_aload dX9_mark_93 (sn_getr clX4 (by decide) w_296 dX9_mark_95 (sn_iload_n dX9_mark_98 rfl (sn_iload_n dX9_mark_99 rfl (sn_iastore dX9_mark_100 (sn_iconst dX9_mark_101 (by decide) (sn_iret rfl dX9_mark_102))))))
def q_X9_mark_90 (X : mh_X) : mh_PR := s_push (.int (-1000000001)) (s_iret X)
theorem b_X9_mark_90 {E : mh_E} {d mc ms : Nat} {Post : Option Value → mh_H → Prop} : mh_S (x_X9_mark E d mc ms Post) 90 (q_X9_mark_90 (x_X9_mark E d mc ms Post)) := sn_ldc dX9_mark_90 w_387 (sn_iret rfl dX9_mark_92)
def q_X9_mark_0 (X : mh_X) : mh_PR := s_il 1 (s_cs X yX9_isSheet 1 (s_if1 (fun x => ¬ x = 0) (s_al 0 (s_gr 9 5 (s_il 1 (s_aald 4 (s_as 4 (s_al 4 (s_cv X yX4_isMissing 4 0 (s_if1 (fun x => x = 0) (s_al 4 (s_il 2 (s_cv X yX4_has 4 1 (s_if1 (fun x => ¬ x = 0) (s_al 4 (s_gi 4 1 (s_if1 (fun x => ¬ x = 0) (s_il 3 (s_push (.int (-1000000005)) (s_if2 (fun x y => x = y) (q_X9_mark_93 X) (s_il 3 (s_push (.int (-99999)) (s_if2 (fun x y => x < y) (q_X9_mark_90 X) (s_il 3 (s_push (.int (99999)) (s_if2 (fun x y => x ≤ y) (q_X9_mark_93 X) (q_X9_mark_90 X)))))))))) (s_il 3 (s_push (.int (-1000000005)) (s_if2 (fun x y => ¬ x = y) (s_al 4 (s_gr 4 0 (s_il 2 (s_il 3 (s_un (fun x => x.toInt16.toInt32) (s_ast 0 (fun x => x) (s_push (.int (1)) (s_iret X)))))))) (s_push (.int (-1000000012)) (s_iret X)))))))) (s_push (.int (-1000000013)) (s_iret X)))))) (s_push (.int (-1000000011)) (s_iret X)))))))))) (s_push (.int (-1000000001)) (s_iret X))))
theorem b_X9_mark_0 {E : mh_E} {d mc ms : Nat} {Post : Option Value → mh_H → Prop} : mh_S (x_X9_mark E d mc ms Post) 0 (q_X9_mark_0 (x_X9_mark E d mc ms Post)) := sn_iload_n dX9_mark_0 rfl (sn_cs w_726 w_727 w_56 nm_X9_isSheet dX9_mark_1 (sn_if_ne (tgt := 10) dX9_mark_4 (by decide) (sn_aload_n dX9_mark_10 rfl (sn_getr clX9 (by decide) w_339 dX9_mark_11 (sn_iload_n dX9_mark_14 rfl (sn_aaload (by decide) rfl dX9_mark_15 (sn_astore dX9_mark_16 (Nat.le_of_ble_eq_true rfl) (sn_aload dX9_mark_18 (sn_cv w_729 w_730 w_731 w_64 rfl nm_X4_isMissing dX9_mark_20 (sn_if_eq (tgt := 29) dX9_mark_23 (by decide) (sn_aload dX9_mark_29 (sn_iload_n dX9_mark_31 rfl (sn_cv w_1027 w_743 w_744 w_64 rfl nm_X4_has dX9_mark_32 (sn_if_ne (tgt := 42) dX9_mark_35 (by decide) (sn_aload dX9_mark_42 (sn_geti clX4 (by decide) w_298 dX9_mark_44 (sn_if_ne (tgt := 70) dX9_mark_47 (by decide) (sn_iload_n dX9_mark_70 rfl (sn_ldc dX9_mark_71 w_511 (sn_icmp_eq (tgt := 93) dX9_mark_73 (by decide) (b_X9_mark_93) (sn_iload_n dX9_mark_76 rfl (sn_ldcw dX9_mark_77 w_1029 (sn_icmp_lt (tgt := 90) dX9_mark_80 (by decide) (b_X9_mark_90) (sn_iload_n dX9_mark_83 rfl (sn_ldcw dX9_mark_84 w_1030 (sn_icmp_le (tgt := 93) dX9_mark_87 (by decide) (b_X9_mark_93) (b_X9_mark_90)))))))))) (sn_iload_n dX9_mark_50 rfl (sn_ldc dX9_mark_51 w_511 (sn_icmp_ne (tgt := 59) dX9_mark_53 (by decide) (sn_aload dX9_mark_59 (sn_getr clX4 (by decide) w_296 dX9_mark_61 (sn_iload_n dX9_mark_64 rfl (sn_iload_n dX9_mark_65 rfl (sn_i2s dX9_mark_66 (sn_iastore dX9_mark_67 (sn_iconst dX9_mark_68 (by decide) (sn_iret rfl dX9_mark_69)))))))) (sn_ldc dX9_mark_56 w_477 (sn_iret rfl dX9_mark_58)))))))) (sn_ldcw dX9_mark_38 w_1028 (sn_iret rfl dX9_mark_41)))))) (sn_ldc dX9_mark_26 w_733 (sn_iret rfl dX9_mark_28)))))))))) (sn_ldc dX9_mark_7 w_387 (sn_iret rfl dX9_mark_9))))
theorem m_X9_mark {E : mh_E} {d mc ms : Nat} {args : List Value} {h : mh_H} {Post : Option Value → mh_H → Prop} (lv : List (Option Value)) (hl : lv_args 0 args = mh_al 0 lv) (hs : (lg_sl args).length ≤ 5) (hG : q_X9_mark_0 (x_X9_mark E d mc ms Post) lv [] h 0 0) : mh_M E d mc ms yX9_mark args h Post := mh_M.of w_1026 (by decide) (by decide) hl hs (b_X9_mark_0 _ _ _ _ _ hG)
theorem dX9_pour_0 : decode cX9_pour 0 = .ok (.iload_n 1, 1) := by decide +kernel
theorem dX9_pour_1 : decode cX9_pour 1 = .ok (.invokestatic 244, 3) := by decide +kernel
theorem dX9_pour_4 : decode cX9_pour 4 = .ok (.ifCond .ne 6, 3) := by decide +kernel
theorem dX9_pour_7 : decode cX9_pour 7 = .ok (.ldc 81, 2) := by decide +kernel
theorem dX9_pour_9 : decode cX9_pour 9 = .ok (.ireturn, 1) := by decide +kernel
theorem dX9_pour_10 : decode cX9_pour 10 = .ok (.aload_n 0, 1) := by decide +kernel
theorem dX9_pour_11 : decode cX9_pour 11 = .ok (.getfield 38, 3) := by decide +kernel
theorem dX9_pour_14 : decode cX9_pour 14 = .ok (.iload_n 1, 1) := by decide +kernel
theorem dX9_pour_15 : decode cX9_pour 15 = .ok (.aaload, 1) := by decide +kernel
theorem dX9_pour_16 : decode cX9_pour 16 = .ok (.astore_n 2, 1) := by decide +kernel
theorem dX9_pour_17 : decode cX9_pour 17 = .ok (.aload_n 2, 1) := by decide +kernel
theorem dX9_pour_18 : decode cX9_pour 18 = .ok (.invokevirtual 247, 3) := by decide +kernel
theorem dX9_pour_21 : decode cX9_pour 21 = .ok (.ifCond .eq 6, 3) := by decide +kernel
theorem dX9_pour_24 : decode cX9_pour 24 = .ok (.ldc 250, 2) := by decide +kernel
theorem dX9_pour_26 : decode cX9_pour 26 = .ok (.ireturn, 1) := by decide +kernel
theorem dX9_pour_27 : decode cX9_pour 27 = .ok (.iconst 0, 1) := by decide +kernel
theorem dX9_pour_28 : decode cX9_pour 28 = .ok (.istore_n 3, 1) := by decide +kernel
theorem dX9_pour_29 : decode cX9_pour 29 = .ok (.iconst 0, 1) := by decide +kernel
theorem dX9_pour_30 : decode cX9_pour 30 = .ok (.istore 4, 2) := by decide +kernel
theorem dX9_pour_32 : decode cX9_pour 32 = .ok (.iload 4, 2) := by decide +kernel
theorem dX9_pour_34 : decode cX9_pour 34 = .ok (.bipush 6, 2) := by decide +kernel
theorem dX9_pour_36 : decode cX9_pour 36 = .ok (.if_icmp .ge 76, 3) := by decide +kernel
theorem dX9_pour_39 : decode cX9_pour 39 = .ok (.aload_n 2, 1) := by decide +kernel
theorem dX9_pour_40 : decode cX9_pour 40 = .ok (.iload 4, 2) := by decide +kernel
theorem dX9_pour_42 : decode cX9_pour 42 = .ok (.invokevirtual 316, 3) := by decide +kernel
theorem dX9_pour_45 : decode cX9_pour 45 = .ok (.istore 5, 2) := by decide +kernel
theorem dX9_pour_47 : decode cX9_pour 47 = .ok (.iload 5, 2) := by decide +kernel
theorem dX9_pour_49 : decode cX9_pour 49 = .ok (.ldc 147, 2) := by decide +kernel
theorem dX9_pour_51 : decode cX9_pour 51 = .ok (.if_icmp .eq 55, 3) := by decide +kernel
theorem dX9_pour_54 : decode cX9_pour 54 = .ok (.iconst 0, 1) := by decide +kernel
theorem dX9_pour_55 : decode cX9_pour 55 = .ok (.bipush 9, 2) := by decide +kernel
theorem dX9_pour_57 : decode cX9_pour 57 = .ok (.iload 5, 2) := by decide +kernel
theorem dX9_pour_59 : decode cX9_pour 59 = .ok (.invokestatic 192, 3) := by decide +kernel
theorem dX9_pour_62 : decode cX9_pour 62 = .ok (.invokestatic 319, 3) := by decide +kernel
theorem dX9_pour_65 : decode cX9_pour 65 = .ok (.istore 6, 2) := by decide +kernel
theorem dX9_pour_67 : decode cX9_pour 67 = .ok (.iload_n 3, 1) := by decide +kernel
theorem dX9_pour_68 : decode cX9_pour 68 = .ok (.iload 6, 2) := by decide +kernel
theorem dX9_pour_70 : decode cX9_pour 70 = .ok (.aload_n 0, 1) := by decide +kernel
theorem dX9_pour_71 : decode cX9_pour 71 = .ok (.getfield 12, 3) := by decide +kernel
theorem dX9_pour_74 : decode cX9_pour 74 = .ok (.getfield 148, 3) := by decide +kernel
theorem dX9_pour_77 : decode cX9_pour 77 = .ok (.iload 4, 2) := by decide +kernel
theorem dX9_pour_79 : decode cX9_pour 79 = .ok (.invokevirtual 157, 3) := by decide +kernel
theorem dX9_pour_82 : decode cX9_pour 82 = .ok (.if_icmp .ne 7, 3) := by decide +kernel
theorem dX9_pour_85 : decode cX9_pour 85 = .ok (.iconst 0, 1) := by decide +kernel
theorem dX9_pour_86 : decode cX9_pour 86 = .ok (.goto 4, 3) := by decide +kernel
theorem dX9_pour_89 : decode cX9_pour 89 = .ok (.iconst 1, 1) := by decide +kernel
theorem dX9_pour_90 : decode cX9_pour 90 = .ok (.iadd, 1) := by decide +kernel
theorem dX9_pour_91 : decode cX9_pour 91 = .ok (.istore_n 3, 1) := by decide +kernel
theorem dX9_pour_92 : decode cX9_pour 92 = .ok (.aload_n 0, 1) := by decide +kernel
theorem dX9_pour_93 : decode cX9_pour 93 = .ok (.getfield 12, 3) := by decide +kernel
theorem dX9_pour_96 : decode cX9_pour 96 = .ok (.getfield 148, 3) := by decide +kernel
theorem dX9_pour_99 : decode cX9_pour 99 = .ok (.iload 4, 2) := by decide +kernel
theorem dX9_pour_101 : decode cX9_pour 101 = .ok (.iload 6, 2) := by decide +kernel
theorem dX9_pour_103 : decode cX9_pour 103 = .ok (.invokevirtual 168, 3) := by decide +kernel
theorem dX9_pour_106 : decode cX9_pour 106 = .ok (.iinc 4 1, 3) := by decide +kernel
theorem dX9_pour_109 : decode cX9_pour 109 = .ok (.goto (-77), 3) := by decide +kernel
theorem dX9_pour_112 : decode cX9_pour 112 = .ok (.iload_n 3, 1) := by decide +kernel
theorem dX9_pour_113 : decode cX9_pour 113 = .ok (.ireturn, 1) := by decide +kernel
abbrev x_X9_pour (E : mh_E) (d mc ms : Nat) (Post : Option Value → mh_H → Prop) : mh_X := (E, yX9_pour, cX9_pour, 7, (some .int), d, mc, ms, Post)
def q_X9_pour_106 (X : mh_X) : mh_PR := s_inc 4 (1) (mh_G X 32)
theorem b_X9_pour_106 {E : mh_E} {d mc ms : Nat} {Post : Option Value → mh_H → Prop} : mh_S (x_X9_pour E d mc ms Post) 106 (q_X9_pour_106 (x_X9_pour E d mc ms Post)) := sn_iinc dX9_pour_106 (by decide) (Nat.le_of_ble_eq_true rfl) (sn_goto (tgt := 32) dX9_pour_109 (by decide) (mh_S.G))
def q_X9_pour_90 (X : mh_X) : mh_PR := s_bin (fun x y => x + y) (s_is 3 (s_al 0 (s_gr 9 0 (s_gr 0 0 (s_il 4 (s_il 6 (s_cv X yX3_promote 3 2 (q_X9_pour_106 X))))))))
theorem b_X9_pour_90 {E : mh_E} {d mc ms : Nat} {Post : Option Value → mh_H → Prop} : mh_S (x_X9_pour E d mc ms Post) 90 (q_X9_pour_90 (x_X9_pour E d mc ms Post)) := sn_iadd dX9_pour_90 (sn_istore_n dX9_pour_91 rfl (Nat.le_of_ble_eq_true rfl) (sn_aload_n dX9_pour_92 rfl (sn_getr clX9 (by decide) w_334 dX9_pour_93 (sn_getr clX0 (by decide) w_176 dX9_pour_96 (sn_iload dX9_pour_99 (sn_iload dX9_pour_101 (sn_cv w_534 w_535 w_536 w_58 rfl nm_X3_promote dX9_pour_103 b_X9_pour_106)))))))
def q_X9_pour_32 (X : mh_X) : mh_PR := s_il 4 (s_push (.int (6)) (s_if2 (fun x y => y ≤ x) (s_il 3 (s_iret X)) (s_al 2 (s_il 4 (s_cv X yX4_valueAt 4 1 (s_is 5 (s_il 5 (s_push (.int (-1000000005)) (s_if2 (fun x y => x = y) (q_X9_pour_106 X) (s_push (.int (0)) (s_push (.int (9)) (s_il 5 (s_mm X (fun x y => if y < x then y else x) (s_mm X (fun x y => if x < y then y else x) (s_is 6 (s_il 3 (s_il 6 (s_al 0 (s_gr 9 0 (s_gr 0 0 (s_il 4 (s_cv X yX3_rankOf 3 1 (s_if2 (fun x y => ¬ x = y) (s_push (.int (1)) (q_X9_pour_90 X)) (s_push (.int (0)) (q_X9_pour_90 X)))))))))))))))))))))))))
theorem b_X9_pour_32 {E : mh_E} {d mc ms : Nat} {Post : Option Value → mh_H → Prop} : mh_S (x_X9_pour E d mc ms Post) 32 (q_X9_pour_32 (x_X9_pour E d mc ms Post)) := sn_iload dX9_pour_32 (sn_bipush dX9_pour_34 (by decide) (sn_icmp_ge (tgt := 112) dX9_pour_36 (by decide) (sn_iload_n dX9_pour_112 rfl (sn_iret rfl dX9_pour_113)) (sn_aload_n dX9_pour_39 rfl (sn_iload dX9_pour_40 (sn_cv w_738 w_739 w_740 w_64 rfl nm_X4_valueAt dX9_pour_42 (sn_istore dX9_pour_45 (Nat.le_of_ble_eq_true rfl) (sn_iload dX9_pour_47 (sn_ldc dX9_pour_49 w_511 (sn_icmp_eq (tgt := 106) dX9_pour_51 (by decide) (b_X9_pour_106) (sn_iconst dX9_pour_54 (by decide) (sn_bipush dX9_pour_55 (by decide) (sn_iload dX9_pour_57 (sn_mmin w_569 w_456 w_67 w_math_min dX9_pour_59 (sn_mmax w_1035 w_425 w_67 w_math_max dX9_pour_62 (sn_istore dX9_pour_65 (Nat.le_of_ble_eq_true rfl) (sn_iload_n dX9_pour_67 rfl (sn_iload dX9_pour_68 (sn_aload_n dX9_pour_70 rfl (sn_getr clX9 (by decide) w_334 dX9_pour_71 (sn_getr clX0 (by decide) w_176 dX9_pour_74 (sn_iload dX9_pour_77 (sn_cv w_521 w_522 w_523 w_58 rfl nm_X3_rankOf dX9_pour_79 (sn_icmp_ne (tgt := 89) dX9_pour_82 (by decide) (sn_iconst dX9_pour_89 (by decide) b_X9_pour_90) (sn_iconst dX9_pour_85 (by decide) (sn_goto (tgt := 90) dX9_pour_86 (by decide) (b_X9_pour_90))))))))))))))))))))))))))
def q_X9_pour_0 (X : mh_X) : mh_PR := s_il 1 (s_cs X yX9_isSheet 1 (s_if1 (fun x => ¬ x = 0) (s_al 0 (s_gr 9 5 (s_il 1 (s_aald 4 (s_as 2 (s_al 2 (s_cv X yX4_isMissing 4 0 (s_if1 (fun x => x = 0) (s_push (.int (0)) (s_is 3 (s_push (.int (0)) (s_is 4 (mh_G X 32))))) (s_push (.int (-1000000011)) (s_iret X)))))))))) (s_push (.int (-1000000001)) (s_iret X))))
theorem b_X9_pour_0 {E : mh_E} {d mc ms : Nat} {Post : Option Value → mh_H → Prop} : mh_S (x_X9_pour E d mc ms Post) 0 (q_X9_pour_0 (x_X9_pour E d mc ms Post)) := sn_iload_n dX9_pour_0 rfl (sn_cs w_726 w_727 w_56 nm_X9_isSheet dX9_pour_1 (sn_if_ne (tgt := 10) dX9_pour_4 (by decide) (sn_aload_n dX9_pour_10 rfl (sn_getr clX9 (by decide) w_339 dX9_pour_11 (sn_iload_n dX9_pour_14 rfl (sn_aaload (by decide) rfl dX9_pour_15 (sn_astore_n dX9_pour_16 rfl (Nat.le_of_ble_eq_true rfl) (sn_aload_n dX9_pour_17 rfl (sn_cv w_729 w_730 w_731 w_64 rfl nm_X4_isMissing dX9_pour_18 (sn_if_eq (tgt := 27) dX9_pour_21 (by decide) (sn_iconst dX9_pour_27 (by decide) (sn_istore_n dX9_pour_28 rfl (Nat.le_of_ble_eq_true rfl) (sn_iconst dX9_pour_29 (by decide) (sn_istore dX9_pour_30 (Nat.le_of_ble_eq_true rfl) mh_S.G)))) (sn_ldc dX9_pour_24 w_733 (sn_iret rfl dX9_pour_26)))))))))) (sn_ldc dX9_pour_7 w_387 (sn_iret rfl dX9_pour_9))))
theorem m_X9_pour {E : mh_E} {d mc ms : Nat} {args : List Value} {h : mh_H} {Post : Option Value → mh_H → Prop} (lv : List (Option Value)) (hl : lv_args 0 args = mh_al 0 lv) (hs : (lg_sl args).length ≤ 7) (hG : q_X9_pour_0 (x_X9_pour E d mc ms Post) lv [] h 0 0) : mh_M E d mc ms yX9_pour args h Post := mh_M.of w_1034 (by decide) (by decide) hl hs (b_X9_pour_0 _ _ _ _ _ hG)
theorem dX9_reads_0 : decode cX9_reads 0 = .ok (.iload_n 1, 1) := by decide +kernel
theorem dX9_reads_1 : decode cX9_reads 1 = .ok (.invokestatic 244, 3) := by decide +kernel
theorem dX9_reads_4 : decode cX9_reads 4 = .ok (.ifCond .ne 6, 3) := by decide +kernel
theorem dX9_reads_7 : decode cX9_reads 7 = .ok (.ldc 81, 2) := by decide +kernel
theorem dX9_reads_9 : decode cX9_reads 9 = .ok (.ireturn, 1) := by decide +kernel
theorem dX9_reads_10 : decode cX9_reads 10 = .ok (.aload_n 0, 1) := by decide +kernel
theorem dX9_reads_11 : decode cX9_reads 11 = .ok (.getfield 38, 3) := by decide +kernel
theorem dX9_reads_14 : decode cX9_reads 14 = .ok (.iload_n 1, 1) := by decide +kernel
theorem dX9_reads_15 : decode cX9_reads 15 = .ok (.aaload, 1) := by decide +kernel
theorem dX9_reads_16 : decode cX9_reads 16 = .ok (.astore_n 2, 1) := by decide +kernel
theorem dX9_reads_17 : decode cX9_reads 17 = .ok (.aload_n 2, 1) := by decide +kernel
theorem dX9_reads_18 : decode cX9_reads 18 = .ok (.invokevirtual 247, 3) := by decide +kernel
theorem dX9_reads_21 : decode cX9_reads 21 = .ok (.ifCond .eq 6, 3) := by decide +kernel
theorem dX9_reads_24 : decode cX9_reads 24 = .ok (.ldc 250, 2) := by decide +kernel
theorem dX9_reads_26 : decode cX9_reads 26 = .ok (.ireturn, 1) := by decide +kernel
theorem dX9_reads_27 : decode cX9_reads 27 = .ok (.iconst 0, 1) := by decide +kernel
theorem dX9_reads_28 : decode cX9_reads 28 = .ok (.istore_n 3, 1) := by decide +kernel
theorem dX9_reads_29 : decode cX9_reads 29 = .ok (.iload_n 3, 1) := by decide +kernel
theorem dX9_reads_30 : decode cX9_reads 30 = .ok (.aload_n 2, 1) := by decide +kernel
theorem dX9_reads_31 : decode cX9_reads 31 = .ok (.getfield 322, 3) := by decide +kernel
theorem dX9_reads_34 : decode cX9_reads 34 = .ok (.if_icmp .ge 48, 3) := by decide +kernel
theorem dX9_reads_37 : decode cX9_reads 37 = .ok (.aload_n 2, 1) := by decide +kernel
theorem dX9_reads_38 : decode cX9_reads 38 = .ok (.iload_n 3, 1) := by decide +kernel
theorem dX9_reads_39 : decode cX9_reads 39 = .ok (.invokevirtual 316, 3) := by decide +kernel
theorem dX9_reads_42 : decode cX9_reads 42 = .ok (.istore 4, 2) := by decide +kernel
theorem dX9_reads_44 : decode cX9_reads 44 = .ok (.iload 4, 2) := by decide +kernel
theorem dX9_reads_46 : decode cX9_reads 46 = .ok (.ldc 147, 2) := by decide +kernel
theorem dX9_reads_48 : decode cX9_reads 48 = .ok (.if_icmp .eq 28, 3) := by decide +kernel
theorem dX9_reads_51 : decode cX9_reads 51 = .ok (.iload_n 3, 1) := by decide +kernel
theorem dX9_reads_52 : decode cX9_reads 52 = .ok (.invokestatic 69, 3) := by decide +kernel
theorem dX9_reads_55 : decode cX9_reads 55 = .ok (.ifCond .eq 19, 3) := by decide +kernel
theorem dX9_reads_58 : decode cX9_reads 58 = .ok (.iload 4, 2) := by decide +kernel
theorem dX9_reads_60 : decode cX9_reads 60 = .ok (.aload_n 0, 1) := by decide +kernel
theorem dX9_reads_61 : decode cX9_reads 61 = .ok (.getfield 12, 3) := by decide +kernel
theorem dX9_reads_64 : decode cX9_reads 64 = .ok (.getfield 148, 3) := by decide +kernel
theorem dX9_reads_67 : decode cX9_reads 67 = .ok (.iload_n 3, 1) := by decide +kernel
theorem dX9_reads_68 : decode cX9_reads 68 = .ok (.invokevirtual 152, 3) := by decide +kernel
theorem dX9_reads_71 : decode cX9_reads 71 = .ok (.if_icmp .eq 5, 3) := by decide +kernel
theorem dX9_reads_74 : decode cX9_reads 74 = .ok (.iload_n 3, 1) := by decide +kernel
theorem dX9_reads_75 : decode cX9_reads 75 = .ok (.ireturn, 1) := by decide +kernel
theorem dX9_reads_76 : decode cX9_reads 76 = .ok (.iinc 3 1, 3) := by decide +kernel
theorem dX9_reads_79 : decode cX9_reads 79 = .ok (.goto (-50), 3) := by decide +kernel
theorem dX9_reads_82 : decode cX9_reads 82 = .ok (.ldc 147, 2) := by decide +kernel
theorem dX9_reads_84 : decode cX9_reads 84 = .ok (.ireturn, 1) := by decide +kernel
abbrev x_X9_reads (E : mh_E) (d mc ms : Nat) (Post : Option Value → mh_H → Prop) : mh_X := (E, yX9_reads, cX9_reads, 5, (some .int), d, mc, ms, Post)
def q_X9_reads_76 (X : mh_X) : mh_PR := s_inc 3 (1) (mh_G X 29)
theorem b_X9_reads_76 {E : mh_E} {d mc ms : Nat} {Post : Option Value → mh_H → Prop} : mh_S (x_X9_reads E d mc ms Post) 76 (q_X9_reads_76 (x_X9_reads E d mc ms Post)) := sn_iinc dX9_reads_76 (by decide) (Nat.le_of_ble_eq_true rfl) (sn_goto (tgt := 29) dX9_reads_79 (by decide) (mh_S.G))
def q_X9_reads_74 (X : mh_X) : mh_PR := s_il 3 (s_iret X)
theorem b_X9_reads_74 {E : mh_E} {d mc ms : Nat} {Post : Option Value → mh_H → Prop} : mh_S (x_X9_reads E d mc ms Post) 74 (q_X9_reads_74 (x_X9_reads E d mc ms Post)) := sn_iload_n dX9_reads_74 rfl (sn_iret rfl dX9_reads_75)
def q_X9_reads_29 (X : mh_X) : mh_PR := s_il 3 (s_al 2 (s_gi 4 2 (s_if2 (fun x y => y ≤ x) (s_push (.int (-1000000005)) (s_iret X)) (s_al 2 (s_il 3 (s_cv X yX4_valueAt 4 1 (s_is 4 (s_il 4 (s_push (.int (-1000000005)) (s_if2 (fun x y => x = y) (q_X9_reads_76 X) (s_il 3 (s_cs X yX9_isOne 1 (s_if1 (fun x => x = 0) (q_X9_reads_74 X) (s_il 4 (s_al 0 (s_gr 9 0 (s_gr 0 0 (s_il 3 (s_cv X yX3_squareOf 3 1 (s_if2 (fun x y => x = y) (q_X9_reads_76 X) (q_X9_reads_74 X)))))))))))))))))))))
theorem b_X9_reads_29 {E : mh_E} {d mc ms : Nat} {Post : Option Value → mh_H → Prop} : mh_S (x_X9_reads E d mc ms Post) 29 (q_X9_reads_29 (x_X9_reads E d mc ms Post)) := sn_iload_n dX9_reads_29 rfl (sn_aload_n dX9_reads_30 rfl (sn_geti clX4 (by decide) w_300 dX9_reads_31 (sn_icmp_ge (tgt := 82) dX9_reads_34 (by decide) (sn_ldc dX9_reads_82 w_511 (sn_iret rfl dX9_reads_84)) (sn_aload_n dX9_reads_37 rfl (sn_iload_n dX9_reads_38 rfl (sn_cv w_738 w_739 w_740 w_64 rfl nm_X4_valueAt dX9_reads_39 (sn_istore dX9_reads_42 (Nat.le_of_ble_eq_true rfl) (sn_iload dX9_reads_44 (sn_ldc dX9_reads_46 w_511 (sn_icmp_eq (tgt := 76) dX9_reads_48 (by decide) (b_X9_reads_76) (sn_iload_n dX9_reads_51 rfl (sn_cs w_375 w_376 w_56 nm_X9_isOne dX9_reads_52 (sn_if_eq (tgt := 74) dX9_reads_55 (by decide) (b_X9_reads_74) (sn_iload dX9_reads_58 (sn_aload_n dX9_reads_60 rfl (sn_getr clX9 (by decide) w_334 dX9_reads_61 (sn_getr clX0 (by decide) w_176 dX9_reads_64 (sn_iload_n dX9_reads_67 rfl (sn_cv w_516 w_517 w_518 w_58 rfl nm_X3_squareOf dX9_reads_68 (sn_icmp_eq (tgt := 76) dX9_reads_71 (by decide) (b_X9_reads_76) (b_X9_reads_74)))))))))))))))))))))
def q_X9_reads_0 (X : mh_X) : mh_PR := s_il 1 (s_cs X yX9_isSheet 1 (s_if1 (fun x => ¬ x = 0) (s_al 0 (s_gr 9 5 (s_il 1 (s_aald 4 (s_as 2 (s_al 2 (s_cv X yX4_isMissing 4 0 (s_if1 (fun x => x = 0) (s_push (.int (0)) (s_is 3 (mh_G X 29))) (s_push (.int (-1000000011)) (s_iret X)))))))))) (s_push (.int (-1000000001)) (s_iret X))))
theorem b_X9_reads_0 {E : mh_E} {d mc ms : Nat} {Post : Option Value → mh_H → Prop} : mh_S (x_X9_reads E d mc ms Post) 0 (q_X9_reads_0 (x_X9_reads E d mc ms Post)) := sn_iload_n dX9_reads_0 rfl (sn_cs w_726 w_727 w_56 nm_X9_isSheet dX9_reads_1 (sn_if_ne (tgt := 10) dX9_reads_4 (by decide) (sn_aload_n dX9_reads_10 rfl (sn_getr clX9 (by decide) w_339 dX9_reads_11 (sn_iload_n dX9_reads_14 rfl (sn_aaload (by decide) rfl dX9_reads_15 (sn_astore_n dX9_reads_16 rfl (Nat.le_of_ble_eq_true rfl) (sn_aload_n dX9_reads_17 rfl (sn_cv w_729 w_730 w_731 w_64 rfl nm_X4_isMissing dX9_reads_18 (sn_if_eq (tgt := 27) dX9_reads_21 (by decide) (sn_iconst dX9_reads_27 (by decide) (sn_istore_n dX9_reads_28 rfl (Nat.le_of_ble_eq_true rfl) mh_S.G)) (sn_ldc dX9_reads_24 w_733 (sn_iret rfl dX9_reads_26)))))))))) (sn_ldc dX9_reads_7 w_387 (sn_iret rfl dX9_reads_9))))
theorem m_X9_reads {E : mh_E} {d mc ms : Nat} {args : List Value} {h : mh_H} {Post : Option Value → mh_H → Prop} (lv : List (Option Value)) (hl : lv_args 0 args = mh_al 0 lv) (hs : (lg_sl args).length ≤ 5) (hG : q_X9_reads_0 (x_X9_reads E d mc ms Post) lv [] h 0 0) : mh_M E d mc ms yX9_reads args h Post := mh_M.of w_1039 (by decide) (by decide) hl hs (b_X9_reads_0 _ _ _ _ _ hG)
theorem dX9_copy_0 : decode cX9_copy 0 = .ok (.iload_n 1, 1) := by decide +kernel
theorem dX9_copy_1 : decode cX9_copy 1 = .ok (.invokestatic 244, 3) := by decide +kernel
theorem dX9_copy_4 : decode cX9_copy 4 = .ok (.ifCond .eq 10, 3) := by decide +kernel
theorem dX9_copy_7 : decode cX9_copy 7 = .ok (.iload_n 3, 1) := by decide +kernel
theorem dX9_copy_8 : decode cX9_copy 8 = .ok (.invokestatic 244, 3) := by decide +kernel
theorem dX9_copy_11 : decode cX9_copy 11 = .ok (.ifCond .ne 6, 3) := by decide +kernel
theorem dX9_copy_14 : decode cX9_copy 14 = .ok (.ldc 81, 2) := by decide +kernel
theorem dX9_copy_16 : decode cX9_copy 16 = .ok (.ireturn, 1) := by decide +kernel
theorem dX9_copy_17 : decode cX9_copy 17 = .ok (.aload_n 0, 1) := by decide +kernel
theorem dX9_copy_18 : decode cX9_copy 18 = .ok (.getfield 38, 3) := by decide +kernel
theorem dX9_copy_21 : decode cX9_copy 21 = .ok (.iload_n 1, 1) := by decide +kernel
theorem dX9_copy_22 : decode cX9_copy 22 = .ok (.aaload, 1) := by decide +kernel
theorem dX9_copy_23 : decode cX9_copy 23 = .ok (.astore 6, 2) := by decide +kernel
theorem dX9_copy_25 : decode cX9_copy 25 = .ok (.aload_n 0, 1) := by decide +kernel
theorem dX9_copy_26 : decode cX9_copy 26 = .ok (.getfield 38, 3) := by decide +kernel
theorem dX9_copy_29 : decode cX9_copy 29 = .ok (.iload_n 3, 1) := by decide +kernel
theorem dX9_copy_30 : decode cX9_copy 30 = .ok (.aaload, 1) := by decide +kernel
theorem dX9_copy_31 : decode cX9_copy 31 = .ok (.astore 7, 2) := by decide +kernel
theorem dX9_copy_33 : decode cX9_copy 33 = .ok (.aload 6, 2) := by decide +kernel
theorem dX9_copy_35 : decode cX9_copy 35 = .ok (.invokevirtual 247, 3) := by decide +kernel
theorem dX9_copy_38 : decode cX9_copy 38 = .ok (.ifCond .ne 11, 3) := by decide +kernel
theorem dX9_copy_41 : decode cX9_copy 41 = .ok (.aload 7, 2) := by decide +kernel
theorem dX9_copy_43 : decode cX9_copy 43 = .ok (.invokevirtual 247, 3) := by decide +kernel
theorem dX9_copy_46 : decode cX9_copy 46 = .ok (.ifCond .eq 6, 3) := by decide +kernel
theorem dX9_copy_49 : decode cX9_copy 49 = .ok (.ldc 250, 2) := by decide +kernel
theorem dX9_copy_51 : decode cX9_copy 51 = .ok (.ireturn, 1) := by decide +kernel
theorem dX9_copy_52 : decode cX9_copy 52 = .ok (.aload 6, 2) := by decide +kernel
theorem dX9_copy_54 : decode cX9_copy 54 = .ok (.getfield 308, 3) := by decide +kernel
theorem dX9_copy_57 : decode cX9_copy 57 = .ok (.aload 7, 2) := by decide +kernel
theorem dX9_copy_59 : decode cX9_copy 59 = .ok (.getfield 308, 3) := by decide +kernel
theorem dX9_copy_62 : decode cX9_copy 62 = .ok (.if_icmp .eq 6, 3) := by decide +kernel
theorem dX9_copy_65 : decode cX9_copy 65 = .ok (.ldc 128, 2) := by decide +kernel
theorem dX9_copy_67 : decode cX9_copy 67 = .ok (.ireturn, 1) := by decide +kernel
theorem dX9_copy_68 : decode cX9_copy 68 = .ok (.aload 6, 2) := by decide +kernel
theorem dX9_copy_70 : decode cX9_copy 70 = .ok (.iload_n 2, 1) := by decide +kernel
theorem dX9_copy_71 : decode cX9_copy 71 = .ok (.iload 5, 2) := by decide +kernel
theorem dX9_copy_73 : decode cX9_copy 73 = .ok (.invokevirtual 325, 3) := by decide +kernel
theorem dX9_copy_76 : decode cX9_copy 76 = .ok (.ifCond .eq 15, 3) := by decide +kernel
theorem dX9_copy_79 : decode cX9_copy 79 = .ok (.aload 7, 2) := by decide +kernel
theorem dX9_copy_81 : decode cX9_copy 81 = .ok (.iload 4, 2) := by decide +kernel
theorem dX9_copy_83 : decode cX9_copy 83 = .ok (.iload 5, 2) := by decide +kernel
theorem dX9_copy_85 : decode cX9_copy 85 = .ok (.invokevirtual 325, 3) := by decide +kernel
theorem dX9_copy_88 : decode cX9_copy 88 = .ok (.ifCond .ne 7, 3) := by decide +kernel
theorem dX9_copy_91 : decode cX9_copy 91 = .ok (.ldc_w 307, 3) := by decide +kernel
theorem dX9_copy_94 : decode cX9_copy 94 = .ok (.ireturn, 1) := by decide +kernel
theorem dX9_copy_95 : decode cX9_copy 95 = .ok (.aload 6, 2) := by decide +kernel
theorem dX9_copy_97 : decode cX9_copy 97 = .ok (.getfield 311, 3) := by decide +kernel
theorem dX9_copy_100 : decode cX9_copy 100 = .ok (.iload_n 2, 1) := by decide +kernel
theorem dX9_copy_101 : decode cX9_copy 101 = .ok (.aload 7, 2) := by decide +kernel
theorem dX9_copy_103 : decode cX9_copy 103 = .ok (.getfield 311, 3) := by decide +kernel
theorem dX9_copy_106 : decode cX9_copy 106 = .ok (.iload 4, 2) := by decide +kernel
theorem dX9_copy_108 : decode cX9_copy 108 = .ok (.iload 5, 2) := by decide +kernel
theorem dX9_copy_110 : decode cX9_copy 110 = .ok (.invokestatic 329, 3) := by decide +kernel
theorem dX9_copy_113 : decode cX9_copy 113 = .ok (.iload 5, 2) := by decide +kernel
theorem dX9_copy_115 : decode cX9_copy 115 = .ok (.ireturn, 1) := by decide +kernel
abbrev x_X9_copy (E : mh_E) (d mc ms : Nat) (Post : Option Value → mh_H → Prop) : mh_X := (E, yX9_copy, cX9_copy, 8, (some .int), d, mc, ms, Post)
def q_X9_copy_91 (X : mh_X) : mh_PR := s_push (.int (-1000000013)) (s_iret X)
theorem b_X9_copy_91 {E : mh_E} {d mc ms : Nat} {Post : Option Value → mh_H → Prop} : mh_S (x_X9_copy E d mc ms Post) 91 (q_X9_copy_91 (x_X9_copy E d mc ms Post)) := sn_ldcw dX9_copy_91 w_1028 (sn_iret rfl dX9_copy_94)
def q_X9_copy_49 (X : mh_X) : mh_PR := s_push (.int (-1000000011)) (s_iret X)
theorem b_X9_copy_49 {E : mh_E} {d mc ms : Nat} {Post : Option Value → mh_H → Prop} : mh_S (x_X9_copy E d mc ms Post) 49 (q_X9_copy_49 (x_X9_copy E d mc ms Post)) := sn_ldc dX9_copy_49 w_733 (sn_iret rfl dX9_copy_51)
def q_X9_copy_14 (X : mh_X) : mh_PR := s_push (.int (-1000000001)) (s_iret X)
theorem b_X9_copy_14 {E : mh_E} {d mc ms : Nat} {Post : Option Value → mh_H → Prop} : mh_S (x_X9_copy E d mc ms Post) 14 (q_X9_copy_14 (x_X9_copy E d mc ms Post)) := sn_ldc dX9_copy_14 w_387 (sn_iret rfl dX9_copy_16)
def q_X9_copy_0 (X : mh_X) : mh_PR := s_il 1 (s_cs X yX9_isSheet 1 (s_if1 (fun x => x = 0) (q_X9_copy_14 X) (s_il 3 (s_cs X yX9_isSheet 1 (s_if1 (fun x => ¬ x = 0) (s_al 0 (s_gr 9 5 (s_il 1 (s_aald 4 (s_as 6 (s_al 0 (s_gr 9 5 (s_il 3 (s_aald 4 (s_as 7 (s_al 6 (s_cv X yX4_isMissing 4 0 (s_if1 (fun x => ¬ x = 0) (q_X9_copy_49 X) (s_al 7 (s_cv X yX4_isMissing 4 0 (s_if1 (fun x => x = 0) (s_al 6 (s_gi 4 1 (s_al 7 (s_gi 4 1 (s_if2 (fun x y => x = y) (s_al 6 (s_il 2 (s_il 5 (s_cv X yX4_hasRun 4 2 (s_if1 (fun x => x = 0) (q_X9_copy_91 X) (s_al 7 (s_il 4 (s_il 5 (s_cv X yX4_hasRun 4 2 (s_if1 (fun x => ¬ x = 0) (s_al 6 (s_gr 4 0 (s_il 2 (s_al 7 (s_gr 4 0 (s_il 4 (s_il 5 (s_ac X (s_il 5 (s_iret X)))))))))) (q_X9_copy_91 X))))))))))) (s_push (.int (-1000000012)) (s_iret X))))))) (q_X9_copy_49 X))))))))))))))))) (q_X9_copy_14 X))))))
theorem b_X9_copy_0 {E : mh_E} {d mc ms : Nat} {Post : Option Value → mh_H → Prop} : mh_S (x_X9_copy E d mc ms Post) 0 (q_X9_copy_0 (x_X9_copy E d mc ms Post)) := sn_iload_n dX9_copy_0 rfl (sn_cs w_726 w_727 w_56 nm_X9_isSheet dX9_copy_1 (sn_if_eq (tgt := 14) dX9_copy_4 (by decide) (b_X9_copy_14) (sn_iload_n dX9_copy_7 rfl (sn_cs w_726 w_727 w_56 nm_X9_isSheet dX9_copy_8 (sn_if_ne (tgt := 17) dX9_copy_11 (by decide) (sn_aload_n dX9_copy_17 rfl (sn_getr clX9 (by decide) w_339 dX9_copy_18 (sn_iload_n dX9_copy_21 rfl (sn_aaload (by decide) rfl dX9_copy_22 (sn_astore dX9_copy_23 (Nat.le_of_ble_eq_true rfl) (sn_aload_n dX9_copy_25 rfl (sn_getr clX9 (by decide) w_339 dX9_copy_26 (sn_iload_n dX9_copy_29 rfl (sn_aaload (by decide) rfl dX9_copy_30 (sn_astore dX9_copy_31 (Nat.le_of_ble_eq_true rfl) (sn_aload dX9_copy_33 (sn_cv w_729 w_730 w_731 w_64 rfl nm_X4_isMissing dX9_copy_35 (sn_if_ne (tgt := 49) dX9_copy_38 (by decide) (b_X9_copy_49) (sn_aload dX9_copy_41 (sn_cv w_729 w_730 w_731 w_64 rfl nm_X4_isMissing dX9_copy_43 (sn_if_eq (tgt := 52) dX9_copy_46 (by decide) (sn_aload dX9_copy_52 (sn_geti clX4 (by decide) w_298 dX9_copy_54 (sn_aload dX9_copy_57 (sn_geti clX4 (by decide) w_298 dX9_copy_59 (sn_icmp_eq (tgt := 68) dX9_copy_62 (by decide) (sn_aload dX9_copy_68 (sn_iload_n dX9_copy_70 rfl (sn_iload dX9_copy_71 (sn_cv w_1044 w_1045 w_1046 w_64 rfl nm_X4_hasRun dX9_copy_73 (sn_if_eq (tgt := 91) dX9_copy_76 (by decide) (b_X9_copy_91) (sn_aload dX9_copy_79 (sn_iload dX9_copy_81 (sn_iload dX9_copy_83 (sn_cv w_1044 w_1045 w_1046 w_64 rfl nm_X4_hasRun dX9_copy_85 (sn_if_ne (tgt := 95) dX9_copy_88 (by decide) (sn_aload dX9_copy_95 (sn_getr clX4 (by decide) w_296 dX9_copy_97 (sn_iload_n dX9_copy_100 rfl (sn_aload dX9_copy_101 (sn_getr clX4 (by decide) w_296 dX9_copy_103 (sn_iload dX9_copy_106 (sn_iload dX9_copy_108 (sn_ac w_1048 w_acN w_acS w_70 dX9_copy_110 (sn_iload dX9_copy_113 (sn_iret rfl dX9_copy_115)))))))))) (b_X9_copy_91))))))))))) (sn_ldc dX9_copy_65 w_477 (sn_iret rfl dX9_copy_67))))))) (b_X9_copy_49))))))))))))))))) (b_X9_copy_14))))))
theorem m_X9_copy {E : mh_E} {d mc ms : Nat} {args : List Value} {h : mh_H} {Post : Option Value → mh_H → Prop} (lv : List (Option Value)) (hl : lv_args 0 args = mh_al 0 lv) (hs : (lg_sl args).length ≤ 8) (hG : q_X9_copy_0 (x_X9_copy E d mc ms Post) lv [] h 0 0) : mh_M E d mc ms yX9_copy args h Post := mh_M.of w_1043 (by decide) (by decide) hl hs (b_X9_copy_0 _ _ _ _ _ hG)
theorem dX9_lay_0 : decode cX9_lay 0 = .ok (.iload_n 1, 1) := by decide +kernel
theorem dX9_lay_1 : decode cX9_lay 1 = .ok (.invokestatic 335, 3) := by decide +kernel
theorem dX9_lay_4 : decode cX9_lay 4 = .ok (.ifCond .eq 37, 3) := by decide +kernel
theorem dX9_lay_7 : decode cX9_lay 7 = .ok (.iload_n 2, 1) := by decide +kernel
theorem dX9_lay_8 : decode cX9_lay 8 = .ok (.ifCond .lt 33, 3) := by decide +kernel
theorem dX9_lay_11 : decode cX9_lay 11 = .ok (.iload_n 2, 1) := by decide +kernel
theorem dX9_lay_12 : decode cX9_lay 12 = .ok (.iconst 3, 1) := by decide +kernel
theorem dX9_lay_13 : decode cX9_lay 13 = .ok (.if_icmp .gt 28, 3) := by decide +kernel
theorem dX9_lay_16 : decode cX9_lay 16 = .ok (.iload_n 2, 1) := by decide +kernel
theorem dX9_lay_17 : decode cX9_lay 17 = .ok (.iconst 1, 1) := by decide +kernel
theorem dX9_lay_18 : decode cX9_lay 18 = .ok (.if_icmp .ne 11, 3) := by decide +kernel
theorem dX9_lay_21 : decode cX9_lay 21 = .ok (.aload_n 0, 1) := by decide +kernel
theorem dX9_lay_22 : decode cX9_lay 22 = .ok (.iload_n 3, 1) := by decide +kernel
theorem dX9_lay_23 : decode cX9_lay 23 = .ok (.invokevirtual 86, 3) := by decide +kernel
theorem dX9_lay_26 : decode cX9_lay 26 = .ok (.ifCond .eq 15, 3) := by decide +kernel
theorem dX9_lay_29 : decode cX9_lay 29 = .ok (.iload_n 2, 1) := by decide +kernel
theorem dX9_lay_30 : decode cX9_lay 30 = .ok (.iconst 2, 1) := by decide +kernel
theorem dX9_lay_31 : decode cX9_lay 31 = .ok (.if_icmp .ne 13, 3) := by decide +kernel
theorem dX9_lay_34 : decode cX9_lay 34 = .ok (.iload_n 3, 1) := by decide +kernel
theorem dX9_lay_35 : decode cX9_lay 35 = .ok (.invokestatic 244, 3) := by decide +kernel
theorem dX9_lay_38 : decode cX9_lay 38 = .ok (.ifCond .ne 6, 3) := by decide +kernel
theorem dX9_lay_41 : decode cX9_lay 41 = .ok (.ldc 81, 2) := by decide +kernel
theorem dX9_lay_43 : decode cX9_lay 43 = .ok (.ireturn, 1) := by decide +kernel
theorem dX9_lay_44 : decode cX9_lay 44 = .ok (.iload_n 2, 1) := by decide +kernel
theorem dX9_lay_45 : decode cX9_lay 45 = .ok (.iconst 2, 1) := by decide +kernel
theorem dX9_lay_46 : decode cX9_lay 46 = .ok (.if_icmp .ne 18, 3) := by decide +kernel
theorem dX9_lay_49 : decode cX9_lay 49 = .ok (.aload_n 0, 1) := by decide +kernel
theorem dX9_lay_50 : decode cX9_lay 50 = .ok (.getfield 38, 3) := by decide +kernel
theorem dX9_lay_53 : decode cX9_lay 53 = .ok (.iload_n 3, 1) := by decide +kernel
theorem dX9_lay_54 : decode cX9_lay 54 = .ok (.aaload, 1) := by decide +kernel
theorem dX9_lay_55 : decode cX9_lay 55 = .ok (.invokevirtual 247, 3) := by decide +kernel
theorem dX9_lay_58 : decode cX9_lay 58 = .ok (.ifCond .eq 6, 3) := by decide +kernel
theorem dX9_lay_61 : decode cX9_lay 61 = .ok (.ldc 250, 2) := by decide +kernel
theorem dX9_lay_63 : decode cX9_lay 63 = .ok (.ireturn, 1) := by decide +kernel
theorem dX9_lay_64 : decode cX9_lay 64 = .ok (.aload_n 0, 1) := by decide +kernel
theorem dX9_lay_65 : decode cX9_lay 65 = .ok (.getfield 44, 3) := by decide +kernel
theorem dX9_lay_68 : decode cX9_lay 68 = .ok (.iload_n 1, 1) := by decide +kernel
theorem dX9_lay_69 : decode cX9_lay 69 = .ok (.aaload, 1) := by decide +kernel
theorem dX9_lay_70 : decode cX9_lay 70 = .ok (.astore 4, 2) := by decide +kernel
theorem dX9_lay_72 : decode cX9_lay 72 = .ok (.aload 4, 2) := by decide +kernel
theorem dX9_lay_74 : decode cX9_lay 74 = .ok (.getfield 338, 3) := by decide +kernel
theorem dX9_lay_77 : decode cX9_lay 77 = .ok (.istore 5, 2) := by decide +kernel
theorem dX9_lay_79 : decode cX9_lay 79 = .ok (.aload 4, 2) := by decide +kernel
theorem dX9_lay_81 : decode cX9_lay 81 = .ok (.iload_n 2, 1) := by decide +kernel
theorem dX9_lay_82 : decode cX9_lay 82 = .ok (.putfield 338, 3) := by decide +kernel
theorem dX9_lay_85 : decode cX9_lay 85 = .ok (.iload_n 2, 1) := by decide +kernel
theorem dX9_lay_86 : decode cX9_lay 86 = .ok (.iconst 1, 1) := by decide +kernel
theorem dX9_lay_87 : decode cX9_lay 87 = .ok (.if_icmp .ne 23, 3) := by decide +kernel
theorem dX9_lay_90 : decode cX9_lay 90 = .ok (.aload 4, 2) := by decide +kernel
theorem dX9_lay_92 : decode cX9_lay 92 = .ok (.getfield 341, 3) := by decide +kernel
theorem dX9_lay_95 : decode cX9_lay 95 = .ok (.aload_n 0, 1) := by decide +kernel
theorem dX9_lay_96 : decode cX9_lay 96 = .ok (.getfield 12, 3) := by decide +kernel
theorem dX9_lay_99 : decode cX9_lay 99 = .ok (.getfield 89, 3) := by decide +kernel
theorem dX9_lay_102 : decode cX9_lay 102 = .ok (.iload_n 3, 1) := by decide +kernel
theorem dX9_lay_103 : decode cX9_lay 103 = .ok (.aaload, 1) := by decide +kernel
theorem dX9_lay_104 : decode cX9_lay 104 = .ok (.invokevirtual 345, 3) := by decide +kernel
theorem dX9_lay_107 : decode cX9_lay 107 = .ok (.goto 36, 3) := by decide +kernel
theorem dX9_lay_110 : decode cX9_lay 110 = .ok (.iload_n 2, 1) := by decide +kernel
theorem dX9_lay_111 : decode cX9_lay 111 = .ok (.iconst 2, 1) := by decide +kernel
theorem dX9_lay_112 : decode cX9_lay 112 = .ok (.if_icmp .ne 20, 3) := by decide +kernel
theorem dX9_lay_115 : decode cX9_lay 115 = .ok (.aload 4, 2) := by decide +kernel
theorem dX9_lay_117 : decode cX9_lay 117 = .ok (.getfield 348, 3) := by decide +kernel
theorem dX9_lay_120 : decode cX9_lay 120 = .ok (.aload_n 0, 1) := by decide +kernel
theorem dX9_lay_121 : decode cX9_lay 121 = .ok (.getfield 38, 3) := by decide +kernel
theorem dX9_lay_124 : decode cX9_lay 124 = .ok (.iload_n 3, 1) := by decide +kernel
theorem dX9_lay_125 : decode cX9_lay 125 = .ok (.aaload, 1) := by decide +kernel
theorem dX9_lay_126 : decode cX9_lay 126 = .ok (.invokevirtual 352, 3) := by decide +kernel
theorem dX9_lay_129 : decode cX9_lay 129 = .ok (.goto 14, 3) := by decide +kernel
theorem dX9_lay_132 : decode cX9_lay 132 = .ok (.iload_n 2, 1) := by decide +kernel
theorem dX9_lay_133 : decode cX9_lay 133 = .ok (.iconst 3, 1) := by decide +kernel
theorem dX9_lay_134 : decode cX9_lay 134 = .ok (.if_icmp .ne 9, 3) := by decide +kernel
theorem dX9_lay_137 : decode cX9_lay 137 = .ok (.aload 4, 2) := by decide +kernel
theorem dX9_lay_139 : decode cX9_lay 139 = .ok (.iload_n 3, 1) := by decide +kernel
theorem dX9_lay_140 : decode cX9_lay 140 = .ok (.putfield 354, 3) := by decide +kernel
theorem dX9_lay_143 : decode cX9_lay 143 = .ok (.iload 5, 2) := by decide +kernel
theorem dX9_lay_145 : decode cX9_lay 145 = .ok (.ireturn, 1) := by decide +kernel
abbrev x_X9_lay (E : mh_E) (d mc ms : Nat) (Post : Option Value → mh_H → Prop) : mh_X := (E, yX9_lay, cX9_lay, 6, (some .int), d, mc, ms, Post)
def q_X9_lay_143 (X : mh_X) : mh_PR := s_il 5 (s_iret X)
theorem b_X9_lay_143 {E : mh_E} {d mc ms : Nat} {Post : Option Value → mh_H → Prop} : mh_S (x_X9_lay E d mc ms Post) 143 (q_X9_lay_143 (x_X9_lay E d mc ms Post)) := sn_iload dX9_lay_143 (sn_iret rfl dX9_lay_145)
def q_X9_lay_64 (X : mh_X) : mh_PR := s_al 0 (s_gr 9 6 (s_il 1 (s_aald 5 (s_as 4 (s_al 4 (s_gi 5 2 (s_is 5 (s_al 4 (s_il 2 (s_pi 5 2 (s_il 2 (s_push (.int (1)) (s_if2 (fun x y => ¬ x = y) (s_il 2 (s_push (.int (2)) (s_if2 (fun x y => ¬ x = y) (s_il 2 (s_push (.int (3)) (s_if2 (fun x y => ¬ x = y) (q_X9_lay_143 X) (s_al 4 (s_il 3 (s_pi 5 3 (q_X9_lay_143 X))))))) (s_al 4 (s_gr 5 1 (s_al 0 (s_gr 9 5 (s_il 3 (s_aald 4 (s_cv X yX4_become 4 1 (q_X9_lay_143 X))))))))))) (s_al 4 (s_gr 5 0 (s_al 0 (s_gr 9 0 (s_gr 0 1 (s_il 3 (s_aald 6 (s_cv X yX6_become 6 1 (q_X9_lay_143 X))))))))))))))))))))))
theorem b_X9_lay_64 {E : mh_E} {d mc ms : Nat} {Post : Option Value → mh_H → Prop} : mh_S (x_X9_lay E d mc ms Post) 64 (q_X9_lay_64 (x_X9_lay E d mc ms Post)) := sn_aload_n dX9_lay_64 rfl (sn_getr clX9 (by decide) w_340 dX9_lay_65 (sn_iload_n dX9_lay_68 rfl (sn_aaload (by decide) rfl dX9_lay_69 (sn_astore dX9_lay_70 (Nat.le_of_ble_eq_true rfl) (sn_aload dX9_lay_72 (sn_geti clX5 (by decide) w_322 dX9_lay_74 (sn_istore dX9_lay_77 (Nat.le_of_ble_eq_true rfl) (sn_aload dX9_lay_79 (sn_iload_n dX9_lay_81 rfl (sn_puti clX5 (by decide) w_322 rfl rfl dX9_lay_82 (sn_iload_n dX9_lay_85 rfl (sn_iconst dX9_lay_86 (by decide) (sn_icmp_ne (tgt := 110) dX9_lay_87 (by decide) (sn_iload_n dX9_lay_110 rfl (sn_iconst dX9_lay_111 (by decide) (sn_icmp_ne (tgt := 132) dX9_lay_112 (by decide) (sn_iload_n dX9_lay_132 rfl (sn_iconst dX9_lay_133 (by decide) (sn_icmp_ne (tgt := 143) dX9_lay_134 (by decide) (b_X9_lay_143) (sn_aload dX9_lay_137 (sn_iload_n dX9_lay_139 rfl (sn_puti clX5 (by decide) w_324 rfl rfl dX9_lay_140 b_X9_lay_143)))))) (sn_aload dX9_lay_115 (sn_getr clX5 (by decide) w_320 dX9_lay_117 (sn_aload_n dX9_lay_120 rfl (sn_getr clX9 (by decide) w_339 dX9_lay_121 (sn_iload_n dX9_lay_124 rfl (sn_aaload (by decide) rfl dX9_lay_125 (sn_cv w_1057 w_1058 w_1059 w_64 rfl nm_X4_become dX9_lay_126 (sn_goto (tgt := 143) dX9_lay_129 (by decide) (b_X9_lay_143)))))))))))) (sn_aload dX9_lay_90 (sn_getr clX5 (by decide) w_318 dX9_lay_92 (sn_aload_n dX9_lay_95 rfl (sn_getr clX9 (by decide) w_334 dX9_lay_96 (sn_getr clX0 (by decide) w_178 dX9_lay_99 (sn_iload_n dX9_lay_102 rfl (sn_aaload (by decide) rfl dX9_lay_103 (sn_cv w_1056 w_668 w_669 w_61 rfl nm_X6_become dX9_lay_104 (sn_goto (tgt := 143) dX9_lay_107 (by decide) (b_X9_lay_143)))))))))))))))))))))))
def q_X9_lay_44 (X : mh_X) : mh_PR := s_il 2 (s_push (.int (2)) (s_if2 (fun x y => ¬ x = y) (q_X9_lay_64 X) (s_al 0 (s_gr 9 5 (s_il 3 (s_aald 4 (s_cv X yX4_isMissing 4 0 (s_if1 (fun x => x = 0) (q_X9_lay_64 X) (s_push (.int (-1000000011)) (s_iret X))))))))))
theorem b_X9_lay_44 {E : mh_E} {d mc ms : Nat} {Post : Option Value → mh_H → Prop} : mh_S (x_X9_lay E d mc ms Post) 44 (q_X9_lay_44 (x_X9_lay E d mc ms Post)) := sn_iload_n dX9_lay_44 rfl (sn_iconst dX9_lay_45 (by decide) (sn_icmp_ne (tgt := 64) dX9_lay_46 (by decide) (b_X9_lay_64) (sn_aload_n dX9_lay_49 rfl (sn_getr clX9 (by decide) w_339 dX9_lay_50 (sn_iload_n dX9_lay_53 rfl (sn_aaload (by decide) rfl dX9_lay_54 (sn_cv w_729 w_730 w_731 w_64 rfl nm_X4_isMissing dX9_lay_55 (sn_if_eq (tgt := 64) dX9_lay_58 (by decide) (b_X9_lay_64) (sn_ldc dX9_lay_61 w_733 (sn_iret rfl dX9_lay_63))))))))))
def q_X9_lay_41 (X : mh_X) : mh_PR := s_push (.int (-1000000001)) (s_iret X)
theorem b_X9_lay_41 {E : mh_E} {d mc ms : Nat} {Post : Option Value → mh_H → Prop} : mh_S (x_X9_lay E d mc ms Post) 41 (q_X9_lay_41 (x_X9_lay E d mc ms Post)) := sn_ldc dX9_lay_41 w_387 (sn_iret rfl dX9_lay_43)
def q_X9_lay_29 (X : mh_X) : mh_PR := s_il 2 (s_push (.int (2)) (s_if2 (fun x y => ¬ x = y) (q_X9_lay_44 X) (s_il 3 (s_cs X yX9_isSheet 1 (s_if1 (fun x => ¬ x = 0) (q_X9_lay_44 X) (q_X9_lay_41 X))))))
theorem b_X9_lay_29 {E : mh_E} {d mc ms : Nat} {Post : Option Value → mh_H → Prop} : mh_S (x_X9_lay E d mc ms Post) 29 (q_X9_lay_29 (x_X9_lay E d mc ms Post)) := sn_iload_n dX9_lay_29 rfl (sn_iconst dX9_lay_30 (by decide) (sn_icmp_ne (tgt := 44) dX9_lay_31 (by decide) (b_X9_lay_44) (sn_iload_n dX9_lay_34 rfl (sn_cs w_726 w_727 w_56 nm_X9_isSheet dX9_lay_35 (sn_if_ne (tgt := 44) dX9_lay_38 (by decide) (b_X9_lay_44) (b_X9_lay_41))))))
def q_X9_lay_0 (X : mh_X) : mh_PR := s_il 1 (s_cs X yX9_isSlot 1 (s_if1 (fun x => x = 0) (q_X9_lay_41 X) (s_il 2 (s_if1 (fun x => x < 0) (q_X9_lay_41 X) (s_il 2 (s_push (.int (3)) (s_if2 (fun x y => y < x) (q_X9_lay_41 X) (s_il 2 (s_push (.int (1)) (s_if2 (fun x y => ¬ x = y) (q_X9_lay_29 X) (s_al 0 (s_il 3 (s_cv X yX9_isStone 9 1 (s_if1 (fun x => x = 0) (q_X9_lay_41 X) (q_X9_lay_29 X)))))))))))))))
theorem b_X9_lay_0 {E : mh_E} {d mc ms : Nat} {Post : Option Value → mh_H → Prop} : mh_S (x_X9_lay E d mc ms Post) 0 (q_X9_lay_0 (x_X9_lay E d mc ms Post)) := sn_iload_n dX9_lay_0 rfl (sn_cs w_1053 w_1054 w_56 nm_X9_isSlot dX9_lay_1 (sn_if_eq (tgt := 41) dX9_lay_4 (by decide) (b_X9_lay_41) (sn_iload_n dX9_lay_7 rfl (sn_if_lt (tgt := 41) dX9_lay_8 (by decide) (b_X9_lay_41) (sn_iload_n dX9_lay_11 rfl (sn_iconst dX9_lay_12 (by decide) (sn_icmp_gt (tgt := 41) dX9_lay_13 (by decide) (b_X9_lay_41) (sn_iload_n dX9_lay_16 rfl (sn_iconst dX9_lay_17 (by decide) (sn_icmp_ne (tgt := 29) dX9_lay_18 (by decide) (b_X9_lay_29) (sn_aload_n dX9_lay_21 rfl (sn_iload_n dX9_lay_22 rfl (sn_cv w_398 w_400 w_0 w_56 rfl nm_X9_isStone dX9_lay_23 (sn_if_eq (tgt := 41) dX9_lay_26 (by decide) (b_X9_lay_41) (b_X9_lay_29)))))))))))))))
theorem m_X9_lay {E : mh_E} {d mc ms : Nat} {args : List Value} {h : mh_H} {Post : Option Value → mh_H → Prop} (lv : List (Option Value)) (hl : lv_args 0 args = mh_al 0 lv) (hs : (lg_sl args).length ≤ 6) (hG : q_X9_lay_0 (x_X9_lay E d mc ms Post) lv [] h 0 0) : mh_M E d mc ms yX9_lay args h Post := mh_M.of w_1052 (by decide) (by decide) hl hs (b_X9_lay_0 _ _ _ _ _ hG)
theorem dX9_ask_0 : decode cX9_ask 0 = .ok (.iload_n 1, 1) := by decide +kernel
theorem dX9_ask_1 : decode cX9_ask 1 = .ok (.invokestatic 335, 3) := by decide +kernel
theorem dX9_ask_4 : decode cX9_ask 4 = .ok (.ifCond .eq 10, 3) := by decide +kernel
theorem dX9_ask_7 : decode cX9_ask 7 = .ok (.iload_n 2, 1) := by decide +kernel
theorem dX9_ask_8 : decode cX9_ask 8 = .ok (.invokestatic 65, 3) := by decide +kernel
theorem dX9_ask_11 : decode cX9_ask 11 = .ok (.ifCond .ne 6, 3) := by decide +kernel
theorem dX9_ask_14 : decode cX9_ask 14 = .ok (.ldc 81, 2) := by decide +kernel
theorem dX9_ask_16 : decode cX9_ask 16 = .ok (.ireturn, 1) := by decide +kernel
theorem dX9_ask_17 : decode cX9_ask 17 = .ok (.aload_n 0, 1) := by decide +kernel
theorem dX9_ask_18 : decode cX9_ask 18 = .ok (.getfield 44, 3) := by decide +kernel
theorem dX9_ask_21 : decode cX9_ask 21 = .ok (.iload_n 1, 1) := by decide +kernel
theorem dX9_ask_22 : decode cX9_ask 22 = .ok (.aaload, 1) := by decide +kernel
theorem dX9_ask_23 : decode cX9_ask 23 = .ok (.astore_n 3, 1) := by decide +kernel
theorem dX9_ask_24 : decode cX9_ask 24 = .ok (.aload_n 3, 1) := by decide +kernel
theorem dX9_ask_25 : decode cX9_ask 25 = .ok (.getfield 338, 3) := by decide +kernel
theorem dX9_ask_28 : decode cX9_ask 28 = .ok (.ifCond .ne 6, 3) := by decide +kernel
theorem dX9_ask_31 : decode cX9_ask 31 = .ok (.ldc 250, 2) := by decide +kernel
theorem dX9_ask_33 : decode cX9_ask 33 = .ok (.ireturn, 1) := by decide +kernel
theorem dX9_ask_34 : decode cX9_ask 34 = .ok (.aload_n 3, 1) := by decide +kernel
theorem dX9_ask_35 : decode cX9_ask 35 = .ok (.getfield 338, 3) := by decide +kernel
theorem dX9_ask_38 : decode cX9_ask 38 = .ok (.iconst 1, 1) := by decide +kernel
theorem dX9_ask_39 : decode cX9_ask 39 = .ok (.if_icmp .ne 24, 3) := by decide +kernel
theorem dX9_ask_42 : decode cX9_ask 42 = .ok (.aload_n 3, 1) := by decide +kernel
theorem dX9_ask_43 : decode cX9_ask 43 = .ok (.getfield 341, 3) := by decide +kernel
theorem dX9_ask_46 : decode cX9_ask 46 = .ok (.iload_n 2, 1) := by decide +kernel
theorem dX9_ask_47 : decode cX9_ask 47 = .ok (.invokevirtual 125, 3) := by decide +kernel
theorem dX9_ask_50 : decode cX9_ask 50 = .ok (.ifCond .eq 13, 3) := by decide +kernel
theorem dX9_ask_53 : decode cX9_ask 53 = .ok (.aload_n 3, 1) := by decide +kernel
theorem dX9_ask_54 : decode cX9_ask 54 = .ok (.getfield 341, 3) := by decide +kernel
theorem dX9_ask_57 : decode cX9_ask 57 = .ok (.invokevirtual 121, 3) := by decide +kernel
theorem dX9_ask_60 : decode cX9_ask 60 = .ok (.goto 5, 3) := by decide +kernel
theorem dX9_ask_63 : decode cX9_ask 63 = .ok (.ldc 128, 2) := by decide +kernel
theorem dX9_ask_65 : decode cX9_ask 65 = .ok (.ireturn, 1) := by decide +kernel
abbrev x_X9_ask (E : mh_E) (d mc ms : Nat) (Post : Option Value → mh_H → Prop) : mh_X := (E, yX9_ask, cX9_ask, 4, (some .int), d, mc, ms, Post)
def q_X9_ask_65 (X : mh_X) : mh_PR := s_iret X
theorem b_X9_ask_65 {E : mh_E} {d mc ms : Nat} {Post : Option Value → mh_H → Prop} : mh_S (x_X9_ask E d mc ms Post) 65 (q_X9_ask_65 (x_X9_ask E d mc ms Post)) := sn_iret rfl dX9_ask_65
def q_X9_ask_63 (X : mh_X) : mh_PR := s_push (.int (-1000000012)) (q_X9_ask_65 X)
theorem b_X9_ask_63 {E : mh_E} {d mc ms : Nat} {Post : Option Value → mh_H → Prop} : mh_S (x_X9_ask E d mc ms Post) 63 (q_X9_ask_63 (x_X9_ask E d mc ms Post)) := sn_ldc dX9_ask_63 w_477 b_X9_ask_65
def q_X9_ask_14 (X : mh_X) : mh_PR := s_push (.int (-1000000001)) (s_iret X)
theorem b_X9_ask_14 {E : mh_E} {d mc ms : Nat} {Post : Option Value → mh_H → Prop} : mh_S (x_X9_ask E d mc ms Post) 14 (q_X9_ask_14 (x_X9_ask E d mc ms Post)) := sn_ldc dX9_ask_14 w_387 (sn_iret rfl dX9_ask_16)
def q_X9_ask_0 (X : mh_X) : mh_PR := s_il 1 (s_cs X yX9_isSlot 1 (s_if1 (fun x => x = 0) (q_X9_ask_14 X) (s_il 2 (s_cs X yX9_isKind 1 (s_if1 (fun x => ¬ x = 0) (s_al 0 (s_gr 9 6 (s_il 1 (s_aald 5 (s_as 3 (s_al 3 (s_gi 5 2 (s_if1 (fun x => ¬ x = 0) (s_al 3 (s_gi 5 2 (s_push (.int (1)) (s_if2 (fun x y => ¬ x = y) (q_X9_ask_63 X) (s_al 3 (s_gr 5 0 (s_il 2 (s_cv X yX6_isOf 6 1 (s_if1 (fun x => x = 0) (q_X9_ask_63 X) (s_al 3 (s_gr 5 0 (s_cv X yX6_worth 6 0 (q_X9_ask_65 X))))))))))))) (s_push (.int (-1000000011)) (s_iret X)))))))))) (q_X9_ask_14 X))))))
theorem b_X9_ask_0 {E : mh_E} {d mc ms : Nat} {Post : Option Value → mh_H → Prop} : mh_S (x_X9_ask E d mc ms Post) 0 (q_X9_ask_0 (x_X9_ask E d mc ms Post)) := sn_iload_n dX9_ask_0 rfl (sn_cs w_1053 w_1054 w_56 nm_X9_isSlot dX9_ask_1 (sn_if_eq (tgt := 14) dX9_ask_4 (by decide) (b_X9_ask_14) (sn_iload_n dX9_ask_7 rfl (sn_cs w_372 w_373 w_56 nm_X9_isKind dX9_ask_8 (sn_if_ne (tgt := 17) dX9_ask_11 (by decide) (sn_aload_n dX9_ask_17 rfl (sn_getr clX9 (by decide) w_340 dX9_ask_18 (sn_iload_n dX9_ask_21 rfl (sn_aaload (by decide) rfl dX9_ask_22 (sn_astore_n dX9_ask_23 rfl (Nat.le_of_ble_eq_true rfl) (sn_aload_n dX9_ask_24 rfl (sn_geti clX5 (by decide) w_322 dX9_ask_25 (sn_if_ne (tgt := 34) dX9_ask_28 (by decide) (sn_aload_n dX9_ask_34 rfl (sn_geti clX5 (by decide) w_322 dX9_ask_35 (sn_iconst dX9_ask_38 (by decide) (sn_icmp_ne (tgt := 63) dX9_ask_39 (by decide) (b_X9_ask_63) (sn_aload_n dX9_ask_42 rfl (sn_getr clX5 (by decide) w_318 dX9_ask_43 (sn_iload_n dX9_ask_46 rfl (sn_cv w_470 w_471 w_472 w_61 rfl nm_X6_isOf dX9_ask_47 (sn_if_eq (tgt := 63) dX9_ask_50 (by decide) (b_X9_ask_63) (sn_aload_n dX9_ask_53 rfl (sn_getr clX5 (by decide) w_318 dX9_ask_54 (sn_cv w_462 w_463 w_464 w_61 rfl nm_X6_worth dX9_ask_57 (sn_goto (tgt := 65) dX9_ask_60 (by decide) (b_X9_ask_65)))))))))))))) (sn_ldc dX9_ask_31 w_733 (sn_iret rfl dX9_ask_33)))))))))) (b_X9_ask_14))))))
theorem m_X9_ask {E : mh_E} {d mc ms : Nat} {args : List Value} {h : mh_H} {Post : Option Value → mh_H → Prop} (lv : List (Option Value)) (hl : lv_args 0 args = mh_al 0 lv) (hs : (lg_sl args).length ≤ 4) (hG : q_X9_ask_0 (x_X9_ask E d mc ms Post) lv [] h 0 0) : mh_M E d mc ms yX9_ask args h Post := mh_M.of w_1065 (by decide) (by decide) hl hs (b_X9_ask_0 _ _ _ _ _ hG)
theorem dX9_item_0 : decode cX9_item 0 = .ok (.iload_n 1, 1) := by decide +kernel
theorem dX9_item_1 : decode cX9_item 1 = .ok (.invokestatic 335, 3) := by decide +kernel
theorem dX9_item_4 : decode cX9_item 4 = .ok (.ifCond .ne 6, 3) := by decide +kernel
theorem dX9_item_7 : decode cX9_item 7 = .ok (.ldc 81, 2) := by decide +kernel
theorem dX9_item_9 : decode cX9_item 9 = .ok (.ireturn, 1) := by decide +kernel
theorem dX9_item_10 : decode cX9_item 10 = .ok (.aload_n 0, 1) := by decide +kernel
theorem dX9_item_11 : decode cX9_item 11 = .ok (.getfield 44, 3) := by decide +kernel
theorem dX9_item_14 : decode cX9_item 14 = .ok (.iload_n 1, 1) := by decide +kernel
theorem dX9_item_15 : decode cX9_item 15 = .ok (.aaload, 1) := by decide +kernel
theorem dX9_item_16 : decode cX9_item 16 = .ok (.astore_n 3, 1) := by decide +kernel
theorem dX9_item_17 : decode cX9_item 17 = .ok (.aload_n 3, 1) := by decide +kernel
theorem dX9_item_18 : decode cX9_item 18 = .ok (.getfield 338, 3) := by decide +kernel
theorem dX9_item_21 : decode cX9_item 21 = .ok (.ifCond .ne 6, 3) := by decide +kernel
theorem dX9_item_24 : decode cX9_item 24 = .ok (.ldc 250, 2) := by decide +kernel
theorem dX9_item_26 : decode cX9_item 26 = .ok (.ireturn, 1) := by decide +kernel
theorem dX9_item_27 : decode cX9_item 27 = .ok (.aload_n 3, 1) := by decide +kernel
theorem dX9_item_28 : decode cX9_item 28 = .ok (.getfield 338, 3) := by decide +kernel
theorem dX9_item_31 : decode cX9_item 31 = .ok (.iconst 2, 1) := by decide +kernel
theorem dX9_item_32 : decode cX9_item 32 = .ok (.if_icmp .eq 6, 3) := by decide +kernel
theorem dX9_item_35 : decode cX9_item 35 = .ok (.ldc 128, 2) := by decide +kernel
theorem dX9_item_37 : decode cX9_item 37 = .ok (.ireturn, 1) := by decide +kernel
theorem dX9_item_38 : decode cX9_item 38 = .ok (.aload_n 3, 1) := by decide +kernel
theorem dX9_item_39 : decode cX9_item 39 = .ok (.getfield 348, 3) := by decide +kernel
theorem dX9_item_42 : decode cX9_item 42 = .ok (.iload_n 2, 1) := by decide +kernel
theorem dX9_item_43 : decode cX9_item 43 = .ok (.invokevirtual 304, 3) := by decide +kernel
theorem dX9_item_46 : decode cX9_item 46 = .ok (.ifCond .ne 7, 3) := by decide +kernel
theorem dX9_item_49 : decode cX9_item 49 = .ok (.ldc_w 307, 3) := by decide +kernel
theorem dX9_item_52 : decode cX9_item 52 = .ok (.ireturn, 1) := by decide +kernel
theorem dX9_item_53 : decode cX9_item 53 = .ok (.aload_n 3, 1) := by decide +kernel
theorem dX9_item_54 : decode cX9_item 54 = .ok (.getfield 348, 3) := by decide +kernel
theorem dX9_item_57 : decode cX9_item 57 = .ok (.iload_n 2, 1) := by decide +kernel
theorem dX9_item_58 : decode cX9_item 58 = .ok (.invokevirtual 316, 3) := by decide +kernel
theorem dX9_item_61 : decode cX9_item 61 = .ok (.istore 4, 2) := by decide +kernel
theorem dX9_item_63 : decode cX9_item 63 = .ok (.iload 4, 2) := by decide +kernel
theorem dX9_item_65 : decode cX9_item 65 = .ok (.ldc 147, 2) := by decide +kernel
theorem dX9_item_67 : decode cX9_item 67 = .ok (.if_icmp .ne 8, 3) := by decide +kernel
theorem dX9_item_70 : decode cX9_item 70 = .ok (.ldc 128, 2) := by decide +kernel
theorem dX9_item_72 : decode cX9_item 72 = .ok (.goto 5, 3) := by decide +kernel
theorem dX9_item_75 : decode cX9_item 75 = .ok (.iload 4, 2) := by decide +kernel
theorem dX9_item_77 : decode cX9_item 77 = .ok (.ireturn, 1) := by decide +kernel
abbrev x_X9_item (E : mh_E) (d mc ms : Nat) (Post : Option Value → mh_H → Prop) : mh_X := (E, yX9_item, cX9_item, 5, (some .int), d, mc, ms, Post)
def q_X9_item_77 (X : mh_X) : mh_PR := s_iret X
theorem b_X9_item_77 {E : mh_E} {d mc ms : Nat} {Post : Option Value → mh_H → Prop} : mh_S (x_X9_item E d mc ms Post) 77 (q_X9_item_77 (x_X9_item E d mc ms Post)) := sn_iret rfl dX9_item_77
def q_X9_item_0 (X : mh_X) : mh_PR := s_il 1 (s_cs X yX9_isSlot 1 (s_if1 (fun x => ¬ x = 0) (s_al 0 (s_gr 9 6 (s_il 1 (s_aald 5 (s_as 3 (s_al 3 (s_gi 5 2 (s_if1 (fun x => ¬ x = 0) (s_al 3 (s_gi 5 2 (s_push (.int (2)) (s_if2 (fun x y => x = y) (s_al 3 (s_gr 5 1 (s_il 2 (s_cv X yX4_has 4 1 (s_if1 (fun x => ¬ x = 0) (s_al 3 (s_gr 5 1 (s_il 2 (s_cv X yX4_valueAt 4 1 (s_is 4 (s_il 4 (s_push (.int (-1000000005)) (s_if2 (fun x y => ¬ x = y) (s_il 4 (q_X9_item_77 X)) (s_push (.int (-1000000012)) (q_X9_item_77 X)))))))))) (s_push (.int (-1000000013)) (s_iret X))))))) (s_push (.int (-1000000012)) (s_iret X)))))) (s_push (.int (-1000000011)) (s_iret X)))))))))) (s_push (.int (-1000000001)) (s_iret X))))
theorem b_X9_item_0 {E : mh_E} {d mc ms : Nat} {Post : Option Value → mh_H → Prop} : mh_S (x_X9_item E d mc ms Post) 0 (q_X9_item_0 (x_X9_item E d mc ms Post)) := sn_iload_n dX9_item_0 rfl (sn_cs w_1053 w_1054 w_56 nm_X9_isSlot dX9_item_1 (sn_if_ne (tgt := 10) dX9_item_4 (by decide) (sn_aload_n dX9_item_10 rfl (sn_getr clX9 (by decide) w_340 dX9_item_11 (sn_iload_n dX9_item_14 rfl (sn_aaload (by decide) rfl dX9_item_15 (sn_astore_n dX9_item_16 rfl (Nat.le_of_ble_eq_true rfl) (sn_aload_n dX9_item_17 rfl (sn_geti clX5 (by decide) w_322 dX9_item_18 (sn_if_ne (tgt := 27) dX9_item_21 (by decide) (sn_aload_n dX9_item_27 rfl (sn_geti clX5 (by decide) w_322 dX9_item_28 (sn_iconst dX9_item_31 (by decide) (sn_icmp_eq (tgt := 38) dX9_item_32 (by decide) (sn_aload_n dX9_item_38 rfl (sn_getr clX5 (by decide) w_320 dX9_item_39 (sn_iload_n dX9_item_42 rfl (sn_cv w_1027 w_743 w_744 w_64 rfl nm_X4_has dX9_item_43 (sn_if_ne (tgt := 53) dX9_item_46 (by decide) (sn_aload_n dX9_item_53 rfl (sn_getr clX5 (by decide) w_320 dX9_item_54 (sn_iload_n dX9_item_57 rfl (sn_cv w_738 w_739 w_740 w_64 rfl nm_X4_valueAt dX9_item_58 (sn_istore dX9_item_61 (Nat.le_of_ble_eq_true rfl) (sn_iload dX9_item_63 (sn_ldc dX9_item_65 w_511 (sn_icmp_ne (tgt := 75) dX9_item_67 (by decide) (sn_iload dX9_item_75 b_X9_item_77) (sn_ldc dX9_item_70 w_477 (sn_goto (tgt := 77) dX9_item_72 (by decide) (b_X9_item_77))))))))))) (sn_ldcw dX9_item_49 w_1028 (sn_iret rfl dX9_item_52))))))) (sn_ldc dX9_item_35 w_477 (sn_iret rfl dX9_item_37)))))) (sn_ldc dX9_item_24 w_733 (sn_iret rfl dX9_item_26)))))))))) (sn_ldc dX9_item_7 w_387 (sn_iret rfl dX9_item_9))))
theorem m_X9_item {E : mh_E} {d mc ms : Nat} {args : List Value} {h : mh_H} {Post : Option Value → mh_H → Prop} (lv : List (Option Value)) (hl : lv_args 0 args = mh_al 0 lv) (hs : (lg_sl args).length ≤ 5) (hG : q_X9_item_0 (x_X9_item E d mc ms Post) lv [] h 0 0) : mh_M E d mc ms yX9_item args h Post := mh_M.of w_1069 (by decide) (by decide) hl hs (b_X9_item_0 _ _ _ _ _ hG)
theorem dX9_rest_0 : decode cX9_rest 0 = .ok (.iload_n 1, 1) := by decide +kernel
theorem dX9_rest_1 : decode cX9_rest 1 = .ok (.invokestatic 335, 3) := by decide +kernel
theorem dX9_rest_4 : decode cX9_rest 4 = .ok (.ifCond .ne 6, 3) := by decide +kernel
theorem dX9_rest_7 : decode cX9_rest 7 = .ok (.ldc 81, 2) := by decide +kernel
theorem dX9_rest_9 : decode cX9_rest 9 = .ok (.ireturn, 1) := by decide +kernel
theorem dX9_rest_10 : decode cX9_rest 10 = .ok (.aload_n 0, 1) := by decide +kernel
theorem dX9_rest_11 : decode cX9_rest 11 = .ok (.getfield 44, 3) := by decide +kernel
theorem dX9_rest_14 : decode cX9_rest 14 = .ok (.iload_n 1, 1) := by decide +kernel
theorem dX9_rest_15 : decode cX9_rest 15 = .ok (.aaload, 1) := by decide +kernel
theorem dX9_rest_16 : decode cX9_rest 16 = .ok (.astore_n 3, 1) := by decide +kernel
theorem dX9_rest_17 : decode cX9_rest 17 = .ok (.aload_n 3, 1) := by decide +kernel
theorem dX9_rest_18 : decode cX9_rest 18 = .ok (.getfield 338, 3) := by decide +kernel
theorem dX9_rest_21 : decode cX9_rest 21 = .ok (.ifCond .ne 6, 3) := by decide +kernel
theorem dX9_rest_24 : decode cX9_rest 24 = .ok (.ldc 250, 2) := by decide +kernel
theorem dX9_rest_26 : decode cX9_rest 26 = .ok (.ireturn, 1) := by decide +kernel
theorem dX9_rest_27 : decode cX9_rest 27 = .ok (.aload_n 3, 1) := by decide +kernel
theorem dX9_rest_28 : decode cX9_rest 28 = .ok (.getfield 338, 3) := by decide +kernel
theorem dX9_rest_31 : decode cX9_rest 31 = .ok (.iconst 3, 1) := by decide +kernel
theorem dX9_rest_32 : decode cX9_rest 32 = .ok (.if_icmp .eq 6, 3) := by decide +kernel
theorem dX9_rest_35 : decode cX9_rest 35 = .ok (.ldc 128, 2) := by decide +kernel
theorem dX9_rest_37 : decode cX9_rest 37 = .ok (.ireturn, 1) := by decide +kernel
theorem dX9_rest_38 : decode cX9_rest 38 = .ok (.iload_n 2, 1) := by decide +kernel
theorem dX9_rest_39 : decode cX9_rest 39 = .ok (.ifCond .ne 8, 3) := by decide +kernel
theorem dX9_rest_42 : decode cX9_rest 42 = .ok (.ldc 146, 2) := by decide +kernel
theorem dX9_rest_44 : decode cX9_rest 44 = .ok (.goto 9, 3) := by decide +kernel
theorem dX9_rest_47 : decode cX9_rest 47 = .ok (.aload_n 3, 1) := by decide +kernel
theorem dX9_rest_48 : decode cX9_rest 48 = .ok (.getfield 354, 3) := by decide +kernel
theorem dX9_rest_51 : decode cX9_rest 51 = .ok (.iload_n 2, 1) := by decide +kernel
theorem dX9_rest_52 : decode cX9_rest 52 = .ok (.irem, 1) := by decide +kernel
theorem dX9_rest_53 : decode cX9_rest 53 = .ok (.ireturn, 1) := by decide +kernel
abbrev x_X9_rest (E : mh_E) (d mc ms : Nat) (Post : Option Value → mh_H → Prop) : mh_X := (E, yX9_rest, cX9_rest, 4, (some .int), d, mc, ms, Post)
def q_X9_rest_53 (X : mh_X) : mh_PR := s_iret X
theorem b_X9_rest_53 {E : mh_E} {d mc ms : Nat} {Post : Option Value → mh_H → Prop} : mh_S (x_X9_rest E d mc ms Post) 53 (q_X9_rest_53 (x_X9_rest E d mc ms Post)) := sn_iret rfl dX9_rest_53
def q_X9_rest_0 (X : mh_X) : mh_PR := s_il 1 (s_cs X yX9_isSlot 1 (s_if1 (fun x => ¬ x = 0) (s_al 0 (s_gr 9 6 (s_il 1 (s_aald 5 (s_as 3 (s_al 3 (s_gi 5 2 (s_if1 (fun x => ¬ x = 0) (s_al 3 (s_gi 5 2 (s_push (.int (3)) (s_if2 (fun x y => x = y) (s_il 2 (s_if1 (fun x => ¬ x = 0) (s_al 3 (s_gi 5 3 (s_il 2 (s_div mh_rem (q_X9_rest_53 X))))) (s_push (.int (-1000000002)) (q_X9_rest_53 X)))) (s_push (.int (-1000000012)) (s_iret X)))))) (s_push (.int (-1000000011)) (s_iret X)))))))))) (s_push (.int (-1000000001)) (s_iret X))))
theorem b_X9_rest_0 {E : mh_E} {d mc ms : Nat} {Post : Option Value → mh_H → Prop} : mh_S (x_X9_rest E d mc ms Post) 0 (q_X9_rest_0 (x_X9_rest E d mc ms Post)) := sn_iload_n dX9_rest_0 rfl (sn_cs w_1053 w_1054 w_56 nm_X9_isSlot dX9_rest_1 (sn_if_ne (tgt := 10) dX9_rest_4 (by decide) (sn_aload_n dX9_rest_10 rfl (sn_getr clX9 (by decide) w_340 dX9_rest_11 (sn_iload_n dX9_rest_14 rfl (sn_aaload (by decide) rfl dX9_rest_15 (sn_astore_n dX9_rest_16 rfl (Nat.le_of_ble_eq_true rfl) (sn_aload_n dX9_rest_17 rfl (sn_geti clX5 (by decide) w_322 dX9_rest_18 (sn_if_ne (tgt := 27) dX9_rest_21 (by decide) (sn_aload_n dX9_rest_27 rfl (sn_geti clX5 (by decide) w_322 dX9_rest_28 (sn_iconst dX9_rest_31 (by decide) (sn_icmp_eq (tgt := 38) dX9_rest_32 (by decide) (sn_iload_n dX9_rest_38 rfl (sn_if_ne (tgt := 47) dX9_rest_39 (by decide) (sn_aload_n dX9_rest_47 rfl (sn_geti clX5 (by decide) w_324 dX9_rest_48 (sn_iload_n dX9_rest_51 rfl (sn_irem dX9_rest_52 b_X9_rest_53)))) (sn_ldc dX9_rest_42 w_510 (sn_goto (tgt := 53) dX9_rest_44 (by decide) (b_X9_rest_53))))) (sn_ldc dX9_rest_35 w_477 (sn_iret rfl dX9_rest_37)))))) (sn_ldc dX9_rest_24 w_733 (sn_iret rfl dX9_rest_26)))))))))) (sn_ldc dX9_rest_7 w_387 (sn_iret rfl dX9_rest_9))))
theorem m_X9_rest {E : mh_E} {d mc ms : Nat} {args : List Value} {h : mh_H} {Post : Option Value → mh_H → Prop} (lv : List (Option Value)) (hl : lv_args 0 args = mh_al 0 lv) (hs : (lg_sl args).length ≤ 4) (hG : q_X9_rest_0 (x_X9_rest E d mc ms Post) lv [] h 0 0) : mh_M E d mc ms yX9_rest args h Post := mh_M.of w_1073 (by decide) (by decide) hl hs (b_X9_rest_0 _ _ _ _ _ hG)
theorem dX9_tell_0 : decode cX9_tell 0 = .ok (.aload_n 0, 1) := by decide +kernel
theorem dX9_tell_1 : decode cX9_tell 1 = .ok (.getfield 55, 3) := by decide +kernel
theorem dX9_tell_4 : decode cX9_tell 4 = .ok (.bipush 60, 2) := by decide +kernel
theorem dX9_tell_6 : decode cX9_tell 6 = .ok (.if_icmp .lt 7, 3) := by decide +kernel
theorem dX9_tell_9 : decode cX9_tell 9 = .ok (.ldc_w 267, 3) := by decide +kernel
theorem dX9_tell_12 : decode cX9_tell 12 = .ok (.ireturn, 1) := by decide +kernel
theorem dX9_tell_13 : decode cX9_tell 13 = .ok (.aload_n 0, 1) := by decide +kernel
theorem dX9_tell_14 : decode cX9_tell 14 = .ok (.getfield 48, 3) := by decide +kernel
theorem dX9_tell_17 : decode cX9_tell 17 = .ok (.aload_n 0, 1) := by decide +kernel
theorem dX9_tell_18 : decode cX9_tell 18 = .ok (.getfield 55, 3) := by decide +kernel
theorem dX9_tell_21 : decode cX9_tell 21 = .ok (.iload_n 1, 1) := by decide +kernel
theorem dX9_tell_22 : decode cX9_tell 22 = .ok (.iastore, 1) := by decide +kernel
theorem dX9_tell_23 : decode cX9_tell 23 = .ok (.aload_n 0, 1) := by decide +kernel
theorem dX9_tell_24 : decode cX9_tell 24 = .ok (.dup, 1) := by decide +kernel
theorem dX9_tell_25 : decode cX9_tell 25 = .ok (.getfield 55, 3) := by decide +kernel
theorem dX9_tell_28 : decode cX9_tell 28 = .ok (.iconst 1, 1) := by decide +kernel
theorem dX9_tell_29 : decode cX9_tell 29 = .ok (.iadd, 1) := by decide +kernel
theorem dX9_tell_30 : decode cX9_tell 30 = .ok (.putfield 55, 3) := by decide +kernel
theorem dX9_tell_33 : decode cX9_tell 33 = .ok (.aload_n 0, 1) := by decide +kernel
theorem dX9_tell_34 : decode cX9_tell 34 = .ok (.getfield 55, 3) := by decide +kernel
theorem dX9_tell_37 : decode cX9_tell 37 = .ok (.ireturn, 1) := by decide +kernel
abbrev x_X9_tell (E : mh_E) (d mc ms : Nat) (Post : Option Value → mh_H → Prop) : mh_X := (E, yX9_tell, cX9_tell, 2, (some .int), d, mc, ms, Post)
def q_X9_tell_0 (X : mh_X) : mh_PR := s_al 0 (s_gi 9 9 (s_push (.int (60)) (s_if2 (fun x y => x < y) (s_al 0 (s_gr 9 7 (s_al 0 (s_gi 9 9 (s_il 1 (s_ast 0 (fun x => x) (s_al 0 (s_dup (s_gi 9 9 (s_push (.int (1)) (s_bin (fun x y => x + y) (s_pi 9 9 (s_al 0 (s_gi 9 9 (s_iret X))))))))))))))) (s_push (.int (-1000000003)) (s_iret X)))))
theorem b_X9_tell_0 {E : mh_E} {d mc ms : Nat} {Post : Option Value → mh_H → Prop} : mh_S (x_X9_tell E d mc ms Post) 0 (q_X9_tell_0 (x_X9_tell E d mc ms Post)) := sn_aload_n dX9_tell_0 rfl (sn_geti clX9 (by decide) w_343 dX9_tell_1 (sn_bipush dX9_tell_4 (by decide) (sn_icmp_lt (tgt := 13) dX9_tell_6 (by decide) (sn_aload_n dX9_tell_13 rfl (sn_getr clX9 (by decide) w_341 dX9_tell_14 (sn_aload_n dX9_tell_17 rfl (sn_geti clX9 (by decide) w_343 dX9_tell_18 (sn_iload_n dX9_tell_21 rfl (sn_iastore dX9_tell_22 (sn_aload_n dX9_tell_23 rfl (sn_dup dX9_tell_24 (sn_geti clX9 (by decide) w_343 dX9_tell_25 (sn_iconst dX9_tell_28 (by decide) (sn_iadd dX9_tell_29 (sn_puti clX9 (by decide) w_343 rfl rfl dX9_tell_30 (sn_aload_n dX9_tell_33 rfl (sn_geti clX9 (by decide) w_343 dX9_tell_34 (sn_iret rfl dX9_tell_37))))))))))))))) (sn_ldcw dX9_tell_9 w_763 (sn_iret rfl dX9_tell_12)))))
theorem m_X9_tell {E : mh_E} {d mc ms : Nat} {args : List Value} {h : mh_H} {Post : Option Value → mh_H → Prop} (lv : List (Option Value)) (hl : lv_args 0 args = mh_al 0 lv) (hs : (lg_sl args).length ≤ 2) (hG : q_X9_tell_0 (x_X9_tell E d mc ms Post) lv [] h 0 0) : mh_M E d mc ms yX9_tell args h Post := mh_M.of w_1077 (by decide) (by decide) hl hs (b_X9_tell_0 _ _ _ _ _ hG)
theorem dX9_check_0 : decode cX9_check 0 = .ok (.aload_n 0, 1) := by decide +kernel
theorem dX9_check_1 : decode cX9_check 1 = .ok (.getfield 55, 3) := by decide +kernel
theorem dX9_check_4 : decode cX9_check 4 = .ok (.istore_n 2, 1) := by decide +kernel
theorem dX9_check_5 : decode cX9_check 5 = .ok (.aload_n 0, 1) := by decide +kernel
theorem dX9_check_6 : decode cX9_check 6 = .ok (.iconst 0, 1) := by decide +kernel
theorem dX9_check_7 : decode cX9_check 7 = .ok (.putfield 55, 3) := by decide +kernel
theorem dX9_check_10 : decode cX9_check 10 = .ok (.iload_n 1, 1) := by decide +kernel
theorem dX9_check_11 : decode cX9_check 11 = .ok (.iconst 1, 1) := by decide +kernel
theorem dX9_check_12 : decode cX9_check 12 = .ok (.if_icmp .lt 9, 3) := by decide +kernel
theorem dX9_check_15 : decode cX9_check 15 = .ok (.iload_n 1, 1) := by decide +kernel
theorem dX9_check_16 : decode cX9_check 16 = .ok (.bipush 30, 2) := by decide +kernel
theorem dX9_check_18 : decode cX9_check 18 = .ok (.if_icmp .le 6, 3) := by decide +kernel
theorem dX9_check_21 : decode cX9_check 21 = .ok (.ldc 81, 2) := by decide +kernel
theorem dX9_check_23 : decode cX9_check 23 = .ok (.ireturn, 1) := by decide +kernel
theorem dX9_check_24 : decode cX9_check 24 = .ok (.aload_n 0, 1) := by decide +kernel
theorem dX9_check_25 : decode cX9_check 25 = .ok (.getfield 59, 3) := by decide +kernel
theorem dX9_check_28 : decode cX9_check 28 = .ok (.ifCond .ne 6, 3) := by decide +kernel
theorem dX9_check_31 : decode cX9_check 31 = .ok (.ldc 146, 2) := by decide +kernel
theorem dX9_check_33 : decode cX9_check 33 = .ok (.ireturn, 1) := by decide +kernel
theorem dX9_check_34 : decode cX9_check 34 = .ok (.aload_n 0, 1) := by decide +kernel
theorem dX9_check_35 : decode cX9_check 35 = .ok (.getfield 19, 3) := by decide +kernel
theorem dX9_check_38 : decode cX9_check 38 = .ok (.aload_n 0, 1) := by decide +kernel
theorem dX9_check_39 : decode cX9_check 39 = .ok (.getfield 16, 3) := by decide +kernel
theorem dX9_check_42 : decode cX9_check 42 = .ok (.invokevirtual 226, 3) := by decide +kernel
theorem dX9_check_45 : decode cX9_check 45 = .ok (.iconst 2, 1) := by decide +kernel
theorem dX9_check_46 : decode cX9_check 46 = .ok (.iload_n 1, 1) := by decide +kernel
theorem dX9_check_47 : decode cX9_check 47 = .ok (.sipush 9999, 3) := by decide +kernel
theorem dX9_check_50 : decode cX9_check 50 = .ok (.aload_n 0, 1) := by decide +kernel
theorem dX9_check_51 : decode cX9_check 51 = .ok (.getfield 16, 3) := by decide +kernel
theorem dX9_check_54 : decode cX9_check 54 = .ok (.getfield 189, 3) := by decide +kernel
theorem dX9_check_57 : decode cX9_check 57 = .ok (.isub, 1) := by decide +kernel
theorem dX9_check_58 : decode cX9_check 58 = .ok (.invokestatic 192, 3) := by decide +kernel
theorem dX9_check_61 : decode cX9_check 61 = .ok (.imul, 1) := by decide +kernel
theorem dX9_check_62 : decode cX9_check 62 = .ok (.istore_n 3, 1) := by decide +kernel
theorem dX9_check_63 : decode cX9_check 63 = .ok (.iconst 0, 1) := by decide +kernel
theorem dX9_check_64 : decode cX9_check 64 = .ok (.istore 4, 2) := by decide +kernel
theorem dX9_check_66 : decode cX9_check 66 = .ok (.iload 4, 2) := by decide +kernel
theorem dX9_check_68 : decode cX9_check 68 = .ok (.iload_n 3, 1) := by decide +kernel
theorem dX9_check_69 : decode cX9_check 69 = .ok (.if_icmp .ge 84, 3) := by decide +kernel
theorem dX9_check_72 : decode cX9_check 72 = .ok (.iload 4, 2) := by decide +kernel
theorem dX9_check_74 : decode cX9_check 74 = .ok (.iconst 2, 1) := by decide +kernel
theorem dX9_check_75 : decode cX9_check 75 = .ok (.irem, 1) := by decide +kernel
theorem dX9_check_76 : decode cX9_check 76 = .ok (.ifCond .ne 12, 3) := by decide +kernel
theorem dX9_check_79 : decode cX9_check 79 = .ok (.aload_n 0, 1) := by decide +kernel
theorem dX9_check_80 : decode cX9_check 80 = .ok (.getfield 19, 3) := by decide +kernel
theorem dX9_check_83 : decode cX9_check 83 = .ok (.iconst 1, 1) := by decide +kernel
theorem dX9_check_84 : decode cX9_check 84 = .ok (.invokevirtual 197, 3) := by decide +kernel
theorem dX9_check_87 : decode cX9_check 87 = .ok (.pop, 1) := by decide +kernel
theorem dX9_check_88 : decode cX9_check 88 = .ok (.iload 4, 2) := by decide +kernel
theorem dX9_check_90 : decode cX9_check 90 = .ok (.iconst 2, 1) := by decide +kernel
theorem dX9_check_91 : decode cX9_check 91 = .ok (.irem, 1) := by decide +kernel
theorem dX9_check_92 : decode cX9_check 92 = .ok (.ifCond .ne 13, 3) := by decide +kernel
theorem dX9_check_95 : decode cX9_check 95 = .ok (.aload_n 0, 1) := by decide +kernel
theorem dX9_check_96 : decode cX9_check 96 = .ok (.getfield 19, 3) := by decide +kernel
theorem dX9_check_99 : decode cX9_check 99 = .ok (.getfield 200, 3) := by decide +kernel
theorem dX9_check_102 : decode cX9_check 102 = .ok (.goto 13, 3) := by decide +kernel
theorem dX9_check_105 : decode cX9_check 105 = .ok (.aload_n 0, 1) := by decide +kernel
theorem dX9_check_106 : decode cX9_check 106 = .ok (.getfield 19, 3) := by decide +kernel
theorem dX9_check_109 : decode cX9_check 109 = .ok (.getfield 148, 3) := by decide +kernel
theorem dX9_check_112 : decode cX9_check 112 = .ok (.invokevirtual 215, 3) := by decide +kernel
theorem dX9_check_115 : decode cX9_check 115 = .ok (.istore 5, 2) := by decide +kernel
theorem dX9_check_117 : decode cX9_check 117 = .ok (.iload 4, 2) := by decide +kernel
theorem dX9_check_119 : decode cX9_check 119 = .ok (.iload_n 2, 1) := by decide +kernel
theorem dX9_check_120 : decode cX9_check 120 = .ok (.if_icmp .ge 22, 3) := by decide +kernel
theorem dX9_check_123 : decode cX9_check 123 = .ok (.iload 4, 2) := by decide +kernel
theorem dX9_check_125 : decode cX9_check 125 = .ok (.bipush 60, 2) := by decide +kernel
theorem dX9_check_127 : decode cX9_check 127 = .ok (.if_icmp .ge 15, 3) := by decide +kernel
theorem dX9_check_130 : decode cX9_check 130 = .ok (.aload_n 0, 1) := by decide +kernel
theorem dX9_check_131 : decode cX9_check 131 = .ok (.getfield 48, 3) := by decide +kernel
theorem dX9_check_134 : decode cX9_check 134 = .ok (.iload 4, 2) := by decide +kernel
theorem dX9_check_136 : decode cX9_check 136 = .ok (.iaload, 1) := by decide +kernel
theorem dX9_check_137 : decode cX9_check 137 = .ok (.iload 5, 2) := by decide +kernel
theorem dX9_check_139 : decode cX9_check 139 = .ok (.if_icmp .eq 8, 3) := by decide +kernel
theorem dX9_check_142 : decode cX9_check 142 = .ok (.iconst 1, 1) := by decide +kernel
theorem dX9_check_143 : decode cX9_check 143 = .ok (.iload 4, 2) := by decide +kernel
theorem dX9_check_145 : decode cX9_check 145 = .ok (.iadd, 1) := by decide +kernel
theorem dX9_check_146 : decode cX9_check 146 = .ok (.ireturn, 1) := by decide +kernel
theorem dX9_check_147 : decode cX9_check 147 = .ok (.iinc 4 1, 3) := by decide +kernel
theorem dX9_check_150 : decode cX9_check 150 = .ok (.goto (-84), 3) := by decide +kernel
theorem dX9_check_153 : decode cX9_check 153 = .ok (.iload_n 2, 1) := by decide +kernel
theorem dX9_check_154 : decode cX9_check 154 = .ok (.iload_n 3, 1) := by decide +kernel
theorem dX9_check_155 : decode cX9_check 155 = .ok (.if_icmp .le 9, 3) := by decide +kernel
theorem dX9_check_158 : decode cX9_check 158 = .ok (.iconst 1, 1) := by decide +kernel
theorem dX9_check_159 : decode cX9_check 159 = .ok (.iload_n 3, 1) := by decide +kernel
theorem dX9_check_160 : decode cX9_check 160 = .ok (.iadd, 1) := by decide +kernel
theorem dX9_check_161 : decode cX9_check 161 = .ok (.goto 4, 3) := by decide +kernel
theorem dX9_check_164 : decode cX9_check 164 = .ok (.iconst 0, 1) := by decide +kernel
theorem dX9_check_165 : decode cX9_check 165 = .ok (.ireturn, 1) := by decide +kernel
abbrev x_X9_check (E : mh_E) (d mc ms : Nat) (Post : Option Value → mh_H → Prop) : mh_X := (E, yX9_check, cX9_check, 6, (some .int), d, mc, ms, Post)
def q_X9_check_165 (X : mh_X) : mh_PR := s_iret X
theorem b_X9_check_165 {E : mh_E} {d mc ms : Nat} {Post : Option Value → mh_H → Prop} : mh_S (x_X9_check E d mc ms Post) 165 (q_X9_check_165 (x_X9_check E d mc ms Post)) := sn_iret rfl dX9_check_165
def q_X9_check_142 (X : mh_X) : mh_PR := s_push (.int (1)) (s_il 4 (s_bin (fun x y => x + y) (s_iret X)))
theorem b_X9_check_142 {E : mh_E} {d mc ms : Nat} {Post : Option Value → mh_H → Prop} : mh_S (x_X9_check E d mc ms Post) 142 (q_X9_check_142 (x_X9_check E d mc ms Post)) := sn_iconst dX9_check_142 (by decide) (sn_iload dX9_check_143 (sn_iadd dX9_check_145 (sn_iret rfl dX9_check_146)))
def q_X9_check_115 (X : mh_X) : mh_PR := s_is 5 (s_il 4 (s_il 2 (s_if2 (fun x y => y ≤ x) (q_X9_check_142 X) (s_il 4 (s_push (.int (60)) (s_if2 (fun x y => y ≤ x) (q_X9_check_142 X) (s_al 0 (s_gr 9 7 (s_il 4 (s_ald 0 (s_il 5 (s_if2 (fun x y => x = y) (s_inc 4 (1) (mh_G X 66)) (q_X9_check_142 X)))))))))))))
theorem b_X9_check_115 {E : mh_E} {d mc ms : Nat} {Post : Option Value → mh_H → Prop} : mh_S (x_X9_check E d mc ms Post) 115 (q_X9_check_115 (x_X9_check E d mc ms Post)) := sn_istore dX9_check_115 (Nat.le_of_ble_eq_true rfl) (sn_iload dX9_check_117 (sn_iload_n dX9_check_119 rfl (sn_icmp_ge (tgt := 142) dX9_check_120 (by decide) (b_X9_check_142) (sn_iload dX9_check_123 (sn_bipush dX9_check_125 (by decide) (sn_icmp_ge (tgt := 142) dX9_check_127 (by decide) (b_X9_check_142) (sn_aload_n dX9_check_130 rfl (sn_getr clX9 (by decide) w_341 dX9_check_131 (sn_iload dX9_check_134 (sn_iaload dX9_check_136 (sn_iload dX9_check_137 (sn_icmp_eq (tgt := 147) dX9_check_139 (by decide) (sn_iinc dX9_check_147 (by decide) (Nat.le_of_ble_eq_true rfl) (sn_goto (tgt := 66) dX9_check_150 (by decide) (mh_S.G))) (b_X9_check_142)))))))))))))
def q_X9_check_88 (X : mh_X) : mh_PR := s_il 4 (s_push (.int (2)) (s_div mh_rem (s_if1 (fun x => ¬ x = 0) (s_al 0 (s_gr 9 2 (s_gr 0 0 (s_cv X yX3_ranksTogether 3 0 (q_X9_check_115 X))))) (s_al 0 (s_gr 9 2 (s_gi 0 6 (q_X9_check_115 X)))))))
theorem b_X9_check_88 {E : mh_E} {d mc ms : Nat} {Post : Option Value → mh_H → Prop} : mh_S (x_X9_check E d mc ms Post) 88 (q_X9_check_88 (x_X9_check E d mc ms Post)) := sn_iload dX9_check_88 (sn_iconst dX9_check_90 (by decide) (sn_irem dX9_check_91 (sn_if_ne (tgt := 105) dX9_check_92 (by decide) (sn_aload_n dX9_check_105 rfl (sn_getr clX9 (by decide) w_336 dX9_check_106 (sn_getr clX0 (by decide) w_176 dX9_check_109 (sn_cv w_608 w_609 w_610 w_58 rfl nm_X3_ranksTogether dX9_check_112 b_X9_check_115)))) (sn_aload_n dX9_check_95 rfl (sn_getr clX9 (by decide) w_336 dX9_check_96 (sn_geti clX0 (by decide) w_190 dX9_check_99 (sn_goto (tgt := 115) dX9_check_102 (by decide) (b_X9_check_115))))))))
def q_X9_check_66 (X : mh_X) : mh_PR := s_il 4 (s_il 3 (s_if2 (fun x y => y ≤ x) (s_il 2 (s_il 3 (s_if2 (fun x y => x ≤ y) (s_push (.int (0)) (q_X9_check_165 X)) (s_push (.int (1)) (s_il 3 (s_bin (fun x y => x + y) (q_X9_check_165 X))))))) (s_il 4 (s_push (.int (2)) (s_div mh_rem (s_if1 (fun x => ¬ x = 0) (q_X9_check_88 X) (s_al 0 (s_gr 9 2 (s_push (.int (1)) (s_cv X yX0_passYears 0 1 (s_pop (q_X9_check_88 X))))))))))))
theorem b_X9_check_66 {E : mh_E} {d mc ms : Nat} {Post : Option Value → mh_H → Prop} : mh_S (x_X9_check E d mc ms Post) 66 (q_X9_check_66 (x_X9_check E d mc ms Post)) := sn_iload dX9_check_66 (sn_iload_n dX9_check_68 rfl (sn_icmp_ge (tgt := 153) dX9_check_69 (by decide) (sn_iload_n dX9_check_153 rfl (sn_iload_n dX9_check_154 rfl (sn_icmp_le (tgt := 164) dX9_check_155 (by decide) (sn_iconst dX9_check_164 (by decide) b_X9_check_165) (sn_iconst dX9_check_158 (by decide) (sn_iload_n dX9_check_159 rfl (sn_iadd dX9_check_160 (sn_goto (tgt := 165) dX9_check_161 (by decide) (b_X9_check_165)))))))) (sn_iload dX9_check_72 (sn_iconst dX9_check_74 (by decide) (sn_irem dX9_check_75 (sn_if_ne (tgt := 88) dX9_check_76 (by decide) (b_X9_check_88) (sn_aload_n dX9_check_79 rfl (sn_getr clX9 (by decide) w_336 dX9_check_80 (sn_iconst dX9_check_83 (by decide) (sn_cv w_570 w_571 w_572 w_57 rfl nm_X0_passYears dX9_check_84 (sn_pop dX9_check_87 b_X9_check_88)))))))))))
def q_X9_check_21 (X : mh_X) : mh_PR := s_push (.int (-1000000001)) (s_iret X)
theorem b_X9_check_21 {E : mh_E} {d mc ms : Nat} {Post : Option Value → mh_H → Prop} : mh_S (x_X9_check E d mc ms Post) 21 (q_X9_check_21 (x_X9_check E d mc ms Post)) := sn_ldc dX9_check_21 w_387 (sn_iret rfl dX9_check_23)
def q_X9_check_0 (X : mh_X) : mh_PR := s_al 0 (s_gi 9 9 (s_is 2 (s_al 0 (s_push (.int (0)) (s_pi 9 9 (s_il 1 (s_push (.int (1)) (s_if2 (fun x y => x < y) (q_X9_check_21 X) (s_il 1 (s_push (.int (30)) (s_if2 (fun x y => x ≤ y) (s_al 0 (s_gi 9 10 (s_if1 (fun x => ¬ x = 0) (s_al 0 (s_gr 9 2 (s_al 0 (s_gr 9 1 (s_cv X yX0_become 0 1 (s_push (.int (2)) (s_il 1 (s_push (.int (9999)) (s_al 0 (s_gr 9 1 (s_gi 0 8 (s_bin (fun x y => x - y) (s_mm X (fun x y => if y < x then y else x) (s_bin (fun x y => x * y) (s_is 3 (s_push (.int (0)) (s_is 4 (mh_G X 66)))))))))))))))))) (s_push (.int (-1000000002)) (s_iret X))))) (q_X9_check_21 X))))))))))))
theorem b_X9_check_0 {E : mh_E} {d mc ms : Nat} {Post : Option Value → mh_H → Prop} : mh_S (x_X9_check E d mc ms Post) 0 (q_X9_check_0 (x_X9_check E d mc ms Post)) := sn_aload_n dX9_check_0 rfl (sn_geti clX9 (by decide) w_343 dX9_check_1 (sn_istore_n dX9_check_4 rfl (Nat.le_of_ble_eq_true rfl) (sn_aload_n dX9_check_5 rfl (sn_iconst dX9_check_6 (by decide) (sn_puti clX9 (by decide) w_343 rfl rfl dX9_check_7 (sn_iload_n dX9_check_10 rfl (sn_iconst dX9_check_11 (by decide) (sn_icmp_lt (tgt := 21) dX9_check_12 (by decide) (b_X9_check_21) (sn_iload_n dX9_check_15 rfl (sn_bipush dX9_check_16 (by decide) (sn_icmp_le (tgt := 24) dX9_check_18 (by decide) (sn_aload_n dX9_check_24 rfl (sn_geti clX9 (by decide) w_344 dX9_check_25 (sn_if_ne (tgt := 34) dX9_check_28 (by decide) (sn_aload_n dX9_check_34 rfl (sn_getr clX9 (by decide) w_336 dX9_check_35 (sn_aload_n dX9_check_38 rfl (sn_getr clX9 (by decide) w_335 dX9_check_39 (sn_cv w_658 w_659 w_660 w_57 rfl nm_X0_become dX9_check_42 (sn_iconst dX9_check_45 (by decide) (sn_iload_n dX9_check_46 rfl (sn_sipush dX9_check_47 (by decide) (sn_aload_n dX9_check_50 rfl (sn_getr clX9 (by decide) w_335 dX9_check_51 (sn_geti clX0 (by decide) w_194 dX9_check_54 (sn_isub dX9_check_57 (sn_mmin w_569 w_456 w_67 w_math_min dX9_check_58 (sn_imul dX9_check_61 (sn_istore_n dX9_check_62 rfl (Nat.le_of_ble_eq_true rfl) (sn_iconst dX9_check_63 (by decide) (sn_istore dX9_check_64 (Nat.le_of_ble_eq_true rfl) mh_S.G))))))))))))))))) (sn_ldc dX9_check_31 w_510 (sn_iret rfl dX9_check_33))))) (b_X9_check_21))))))))))))
theorem m_X9_check {E : mh_E} {d mc ms : Nat} {args : List Value} {h : mh_H} {Post : Option Value → mh_H → Prop} (lv : List (Option Value)) (hl : lv_args 0 args = mh_al 0 lv) (hs : (lg_sl args).length ≤ 6) (hG : q_X9_check_0 (x_X9_check E d mc ms Post) lv [] h 0 0) : mh_M E d mc ms yX9_check args h Post := mh_M.of w_1081 (by decide) (by decide) hl hs (b_X9_check_0 _ _ _ _ _ hG)
theorem dX9_keep_0 : decode cX9_keep 0 = .ok (.aload_n 0, 1) := by decide +kernel
theorem dX9_keep_1 : decode cX9_keep 1 = .ok (.getfield 16, 3) := by decide +kernel
theorem dX9_keep_4 : decode cX9_keep 4 = .ok (.aload_n 0, 1) := by decide +kernel
theorem dX9_keep_5 : decode cX9_keep 5 = .ok (.getfield 12, 3) := by decide +kernel
theorem dX9_keep_8 : decode cX9_keep 8 = .ok (.invokevirtual 226, 3) := by decide +kernel
theorem dX9_keep_11 : decode cX9_keep 11 = .ok (.aload_n 0, 1) := by decide +kernel
theorem dX9_keep_12 : decode cX9_keep 12 = .ok (.iconst 1, 1) := by decide +kernel
theorem dX9_keep_13 : decode cX9_keep 13 = .ok (.putfield 59, 3) := by decide +kernel
theorem dX9_keep_16 : decode cX9_keep 16 = .ok (.aload_n 0, 1) := by decide +kernel
theorem dX9_keep_17 : decode cX9_keep 17 = .ok (.getfield 16, 3) := by decide +kernel
theorem dX9_keep_20 : decode cX9_keep 20 = .ok (.getfield 180, 3) := by decide +kernel
theorem dX9_keep_23 : decode cX9_keep 23 = .ok (.ireturn, 1) := by decide +kernel
abbrev x_X9_keep (E : mh_E) (d mc ms : Nat) (Post : Option Value → mh_H → Prop) : mh_X := (E, yX9_keep, cX9_keep, 1, (some .int), d, mc, ms, Post)
def q_X9_keep_0 (X : mh_X) : mh_PR := s_al 0 (s_gr 9 1 (s_al 0 (s_gr 9 0 (s_cv X yX0_become 0 1 (s_al 0 (s_push (.int (1)) (s_pz 9 10 (s_al 0 (s_gr 9 1 (s_gi 0 3 (s_iret X)))))))))))
theorem b_X9_keep_0 {E : mh_E} {d mc ms : Nat} {Post : Option Value → mh_H → Prop} : mh_S (x_X9_keep E d mc ms Post) 0 (q_X9_keep_0 (x_X9_keep E d mc ms Post)) := sn_aload_n dX9_keep_0 rfl (sn_getr clX9 (by decide) w_335 dX9_keep_1 (sn_aload_n dX9_keep_4 rfl (sn_getr clX9 (by decide) w_334 dX9_keep_5 (sn_cv w_658 w_659 w_660 w_57 rfl nm_X0_become dX9_keep_8 (sn_aload_n dX9_keep_11 rfl (sn_iconst dX9_keep_12 (by decide) (sn_putz clX9 (by decide) w_344 rfl rfl dX9_keep_13 (sn_aload_n dX9_keep_16 rfl (sn_getr clX9 (by decide) w_335 dX9_keep_17 (sn_geti clX0 (by decide) w_184 dX9_keep_20 (sn_iret rfl dX9_keep_23)))))))))))
theorem m_X9_keep {E : mh_E} {d mc ms : Nat} {args : List Value} {h : mh_H} {Post : Option Value → mh_H → Prop} (lv : List (Option Value)) (hl : lv_args 0 args = mh_al 0 lv) (hs : (lg_sl args).length ≤ 1) (hG : q_X9_keep_0 (x_X9_keep E d mc ms Post) lv [] h 0 0) : mh_M E d mc ms yX9_keep args h Post := mh_M.of w_1085 (by decide) (by decide) hl hs (b_X9_keep_0 _ _ _ _ _ hG)
theorem dX9_back_0 : decode cX9_back 0 = .ok (.aload_n 0, 1) := by decide +kernel
theorem dX9_back_1 : decode cX9_back 1 = .ok (.getfield 59, 3) := by decide +kernel
theorem dX9_back_4 : decode cX9_back 4 = .ok (.ifCond .ne 6, 3) := by decide +kernel
theorem dX9_back_7 : decode cX9_back 7 = .ok (.ldc 146, 2) := by decide +kernel
theorem dX9_back_9 : decode cX9_back 9 = .ok (.ireturn, 1) := by decide +kernel
theorem dX9_back_10 : decode cX9_back 10 = .ok (.aload_n 0, 1) := by decide +kernel
theorem dX9_back_11 : decode cX9_back 11 = .ok (.getfield 12, 3) := by decide +kernel
theorem dX9_back_14 : decode cX9_back 14 = .ok (.aload_n 0, 1) := by decide +kernel
theorem dX9_back_15 : decode cX9_back 15 = .ok (.getfield 16, 3) := by decide +kernel
theorem dX9_back_18 : decode cX9_back 18 = .ok (.invokevirtual 226, 3) := by decide +kernel
theorem dX9_back_21 : decode cX9_back 21 = .ok (.aload_n 0, 1) := by decide +kernel
theorem dX9_back_22 : decode cX9_back 22 = .ok (.getfield 12, 3) := by decide +kernel
theorem dX9_back_25 : decode cX9_back 25 = .ok (.getfield 180, 3) := by decide +kernel
theorem dX9_back_28 : decode cX9_back 28 = .ok (.ireturn, 1) := by decide +kernel
abbrev x_X9_back (E : mh_E) (d mc ms : Nat) (Post : Option Value → mh_H → Prop) : mh_X := (E, yX9_back, cX9_back, 1, (some .int), d, mc, ms, Post)
def q_X9_back_0 (X : mh_X) : mh_PR := s_al 0 (s_gi 9 10 (s_if1 (fun x => ¬ x = 0) (s_al 0 (s_gr 9 0 (s_al 0 (s_gr 9 1 (s_cv X yX0_become 0 1 (s_al 0 (s_gr 9 0 (s_gi 0 3 (s_iret X))))))))) (s_push (.int (-1000000002)) (s_iret X))))
theorem b_X9_back_0 {E : mh_E} {d mc ms : Nat} {Post : Option Value → mh_H → Prop} : mh_S (x_X9_back E d mc ms Post) 0 (q_X9_back_0 (x_X9_back E d mc ms Post)) := sn_aload_n dX9_back_0 rfl (sn_geti clX9 (by decide) w_344 dX9_back_1 (sn_if_ne (tgt := 10) dX9_back_4 (by decide) (sn_aload_n dX9_back_10 rfl (sn_getr clX9 (by decide) w_334 dX9_back_11 (sn_aload_n dX9_back_14 rfl (sn_getr clX9 (by decide) w_335 dX9_back_15 (sn_cv w_658 w_659 w_660 w_57 rfl nm_X0_become dX9_back_18 (sn_aload_n dX9_back_21 rfl (sn_getr clX9 (by decide) w_334 dX9_back_22 (sn_geti clX0 (by decide) w_184 dX9_back_25 (sn_iret rfl dX9_back_28))))))))) (sn_ldc dX9_back_7 w_510 (sn_iret rfl dX9_back_9))))
theorem m_X9_back {E : mh_E} {d mc ms : Nat} {args : List Value} {h : mh_H} {Post : Option Value → mh_H → Prop} (lv : List (Option Value)) (hl : lv_args 0 args = mh_al 0 lv) (hs : (lg_sl args).length ≤ 1) (hG : q_X9_back_0 (x_X9_back E d mc ms Post) lv [] h 0 0) : mh_M E d mc ms yX9_back args h Post := mh_M.of w_1089 (by decide) (by decide) hl hs (b_X9_back_0 _ _ _ _ _ hG)
theorem dX9_count_0 : decode cX9_count 0 = .ok (.iload_n 1, 1) := by decide +kernel
theorem dX9_count_1 : decode cX9_count 1 = .ok (.tableswitch 111 0 7 #[47, 55, 63, 71, 79, 90, 95, 103], 47) := by decide +kernel
theorem dX9_count_48 : decode cX9_count 48 = .ok (.aload_n 0, 1) := by decide +kernel
theorem dX9_count_49 : decode cX9_count 49 = .ok (.getfield 12, 3) := by decide +kernel
theorem dX9_count_52 : decode cX9_count 52 = .ok (.getfield 180, 3) := by decide +kernel
theorem dX9_count_55 : decode cX9_count 55 = .ok (.ireturn, 1) := by decide +kernel
theorem dX9_count_56 : decode cX9_count 56 = .ok (.aload_n 0, 1) := by decide +kernel
theorem dX9_count_57 : decode cX9_count 57 = .ok (.getfield 12, 3) := by decide +kernel
theorem dX9_count_60 : decode cX9_count 60 = .ok (.getfield 189, 3) := by decide +kernel
theorem dX9_count_63 : decode cX9_count 63 = .ok (.ireturn, 1) := by decide +kernel
theorem dX9_count_64 : decode cX9_count 64 = .ok (.aload_n 0, 1) := by decide +kernel
theorem dX9_count_65 : decode cX9_count 65 = .ok (.getfield 12, 3) := by decide +kernel
theorem dX9_count_68 : decode cX9_count 68 = .ok (.getfield 174, 3) := by decide +kernel
theorem dX9_count_71 : decode cX9_count 71 = .ok (.ireturn, 1) := by decide +kernel
theorem dX9_count_72 : decode cX9_count 72 = .ok (.aload_n 0, 1) := by decide +kernel
theorem dX9_count_73 : decode cX9_count 73 = .ok (.getfield 12, 3) := by decide +kernel
theorem dX9_count_76 : decode cX9_count 76 = .ok (.getfield 177, 3) := by decide +kernel
theorem dX9_count_79 : decode cX9_count 79 = .ok (.ireturn, 1) := by decide +kernel
theorem dX9_count_80 : decode cX9_count 80 = .ok (.aload_n 0, 1) := by decide +kernel
theorem dX9_count_81 : decode cX9_count 81 = .ok (.getfield 12, 3) := by decide +kernel
theorem dX9_count_84 : decode cX9_count 84 = .ok (.getfield 255, 3) := by decide +kernel
theorem dX9_count_87 : decode cX9_count 87 = .ok (.getfield 357, 3) := by decide +kernel
theorem dX9_count_90 : decode cX9_count 90 = .ok (.ireturn, 1) := by decide +kernel
theorem dX9_count_91 : decode cX9_count 91 = .ok (.aload_n 0, 1) := by decide +kernel
theorem dX9_count_92 : decode cX9_count 92 = .ok (.getfield 55, 3) := by decide +kernel
theorem dX9_count_95 : decode cX9_count 95 = .ok (.ireturn, 1) := by decide +kernel
theorem dX9_count_96 : decode cX9_count 96 = .ok (.aload_n 0, 1) := by decide +kernel
theorem dX9_count_97 : decode cX9_count 97 = .ok (.getfield 32, 3) := by decide +kernel
theorem dX9_count_100 : decode cX9_count 100 = .ok (.getfield 264, 3) := by decide +kernel
theorem dX9_count_103 : decode cX9_count 103 = .ok (.ireturn, 1) := by decide +kernel
theorem dX9_count_104 : decode cX9_count 104 = .ok (.aload_n 0, 1) := by decide +kernel
theorem dX9_count_105 : decode cX9_count 105 = .ok (.getfield 12, 3) := by decide +kernel
theorem dX9_count_108 : decode cX9_count 108 = .ok (.getfield 186, 3) := by decide +kernel
theorem dX9_count_111 : decode cX9_count 111 = .ok (.ireturn, 1) := by decide +kernel
theorem dX9_count_112 : decode cX9_count 112 = .ok (.ldc 81, 2) := by decide +kernel
theorem dX9_count_114 : decode cX9_count 114 = .ok (.ireturn, 1) := by decide +kernel
abbrev x_X9_count (E : mh_E) (d mc ms : Nat) (Post : Option Value → mh_H → Prop) : mh_X := (E, yX9_count, cX9_count, 2, (some .int), d, mc, ms, Post)
def q_X9_count_0 (X : mh_X) : mh_PR := s_il 1 (s_sw [((0 : Int32), s_al 0 (s_gr 9 0 (s_gi 0 3 (s_iret X)))), ((1 : Int32), s_al 0 (s_gr 9 0 (s_gi 0 8 (s_iret X)))), ((2 : Int32), s_al 0 (s_gr 9 0 (s_gi 0 4 (s_iret X)))), ((3 : Int32), s_al 0 (s_gr 9 0 (s_gi 0 5 (s_iret X)))), ((4 : Int32), s_al 0 (s_gr 9 0 (s_gr 0 2 (s_gi 2 2 (s_iret X))))), ((5 : Int32), s_al 0 (s_gi 9 9 (s_iret X))), ((6 : Int32), s_al 0 (s_gr 9 4 (s_gi 7 2 (s_iret X)))), ((7 : Int32), s_al 0 (s_gr 9 0 (s_gi 0 9 (s_iret X))))] (s_push (.int (-1000000001)) (s_iret X)))
theorem b_X9_count_0 {E : mh_E} {d mc ms : Nat} {Post : Option Value → mh_H → Prop} : mh_S (x_X9_count E d mc ms Post) 0 (q_X9_count_0 (x_X9_count E d mc ms Post)) := sn_iload_n dX9_count_0 rfl (sn_table (tgt := 112) (ts := [(0, 47, 48), (1, 55, 56), (2, 63, 64), (3, 71, 72), (4, 79, 80), (5, 90, 91), (6, 95, 96), (7, 103, 104)]) dX9_count_1 (by decide +kernel) (by decide +kernel) (sw_cons (sn_aload_n dX9_count_48 rfl (sn_getr clX9 (by decide) w_334 dX9_count_49 (sn_geti clX0 (by decide) w_184 dX9_count_52 (sn_iret rfl dX9_count_55)))) (sw_cons (sn_aload_n dX9_count_56 rfl (sn_getr clX9 (by decide) w_334 dX9_count_57 (sn_geti clX0 (by decide) w_194 dX9_count_60 (sn_iret rfl dX9_count_63)))) (sw_cons (sn_aload_n dX9_count_64 rfl (sn_getr clX9 (by decide) w_334 dX9_count_65 (sn_geti clX0 (by decide) w_186 dX9_count_68 (sn_iret rfl dX9_count_71)))) (sw_cons (sn_aload_n dX9_count_72 rfl (sn_getr clX9 (by decide) w_334 dX9_count_73 (sn_geti clX0 (by decide) w_188 dX9_count_76 (sn_iret rfl dX9_count_79)))) (sw_cons (sn_aload_n dX9_count_80 rfl (sn_getr clX9 (by decide) w_334 dX9_count_81 (sn_getr clX0 (by decide) w_181 dX9_count_84 (sn_geti clX2 (by decide) w_127 dX9_count_87 (sn_iret rfl dX9_count_90))))) (sw_cons (sn_aload_n dX9_count_91 rfl (sn_geti clX9 (by decide) w_343 dX9_count_92 (sn_iret rfl dX9_count_95))) (sw_cons (sn_aload_n dX9_count_96 rfl (sn_getr clX9 (by decide) w_338 dX9_count_97 (sn_geti clX7 (by decide) w_250 dX9_count_100 (sn_iret rfl dX9_count_103)))) (sw_cons (sn_aload_n dX9_count_104 rfl (sn_getr clX9 (by decide) w_334 dX9_count_105 (sn_geti clX0 (by decide) w_196 dX9_count_108 (sn_iret rfl dX9_count_111)))) sw_nil)))))))) (by decide) (sn_ldc dX9_count_112 w_387 (sn_iret rfl dX9_count_114)))
theorem m_X9_count {E : mh_E} {d mc ms : Nat} {args : List Value} {h : mh_H} {Post : Option Value → mh_H → Prop} (lv : List (Option Value)) (hl : lv_args 0 args = mh_al 0 lv) (hs : (lg_sl args).length ≤ 2) (hG : q_X9_count_0 (x_X9_count E d mc ms Post) lv [] h 0 0) : mh_M E d mc ms yX9_count args h Post := mh_M.of w_1093 (by decide) (by decide) hl hs (b_X9_count_0 _ _ _ _ _ hG)
theorem dX9_isKind_0 : decode cX9_isKind 0 = .ok (.iload_n 0, 1) := by decide +kernel
theorem dX9_isKind_1 : decode cX9_isKind 1 = .ok (.ifCond .lt 13, 3) := by decide +kernel
theorem dX9_isKind_4 : decode cX9_isKind 4 = .ok (.iload_n 0, 1) := by decide +kernel
theorem dX9_isKind_5 : decode cX9_isKind 5 = .ok (.bipush 6, 2) := by decide +kernel
theorem dX9_isKind_7 : decode cX9_isKind 7 = .ok (.if_icmp .ge 7, 3) := by decide +kernel
theorem dX9_isKind_10 : decode cX9_isKind 10 = .ok (.iconst 1, 1) := by decide +kernel
theorem dX9_isKind_11 : decode cX9_isKind 11 = .ok (.goto 4, 3) := by decide +kernel
theorem dX9_isKind_14 : decode cX9_isKind 14 = .ok (.iconst 0, 1) := by decide +kernel
theorem dX9_isKind_15 : decode cX9_isKind 15 = .ok (.ireturn, 1) := by decide +kernel
abbrev x_X9_isKind (E : mh_E) (d mc ms : Nat) (Post : Option Value → mh_H → Prop) : mh_X := (E, yX9_isKind, cX9_isKind, 1, (some .boolean), d, mc, ms, Post)
def q_X9_isKind_15 (X : mh_X) : mh_PR := s_zret X
theorem b_X9_isKind_15 {E : mh_E} {d mc ms : Nat} {Post : Option Value → mh_H → Prop} : mh_S (x_X9_isKind E d mc ms Post) 15 (q_X9_isKind_15 (x_X9_isKind E d mc ms Post)) := sn_zret rfl dX9_isKind_15
def q_X9_isKind_14 (X : mh_X) : mh_PR := s_push (.int (0)) (q_X9_isKind_15 X)
theorem b_X9_isKind_14 {E : mh_E} {d mc ms : Nat} {Post : Option Value → mh_H → Prop} : mh_S (x_X9_isKind E d mc ms Post) 14 (q_X9_isKind_14 (x_X9_isKind E d mc ms Post)) := sn_iconst dX9_isKind_14 (by decide) b_X9_isKind_15
def q_X9_isKind_0 (X : mh_X) : mh_PR := s_il 0 (s_if1 (fun x => x < 0) (q_X9_isKind_14 X) (s_il 0 (s_push (.int (6)) (s_if2 (fun x y => y ≤ x) (q_X9_isKind_14 X) (s_push (.int (1)) (q_X9_isKind_15 X))))))
theorem b_X9_isKind_0 {E : mh_E} {d mc ms : Nat} {Post : Option Value → mh_H → Prop} : mh_S (x_X9_isKind E d mc ms Post) 0 (q_X9_isKind_0 (x_X9_isKind E d mc ms Post)) := sn_iload_n dX9_isKind_0 rfl (sn_if_lt (tgt := 14) dX9_isKind_1 (by decide) (b_X9_isKind_14) (sn_iload_n dX9_isKind_4 rfl (sn_bipush dX9_isKind_5 (by decide) (sn_icmp_ge (tgt := 14) dX9_isKind_7 (by decide) (b_X9_isKind_14) (sn_iconst dX9_isKind_10 (by decide) (sn_goto (tgt := 15) dX9_isKind_11 (by decide) (b_X9_isKind_15)))))))
theorem m_X9_isKind {E : mh_E} {d mc ms : Nat} {args : List Value} {h : mh_H} {Post : Option Value → mh_H → Prop} (lv : List (Option Value)) (hl : lv_args 0 args = mh_al 0 lv) (hs : (lg_sl args).length ≤ 1) (hG : q_X9_isKind_0 (x_X9_isKind E d mc ms Post) lv [] h 0 0) : mh_M E d mc ms yX9_isKind args h Post := mh_M.of w_374 (by decide) (by decide) hl hs (b_X9_isKind_0 _ _ _ _ _ hG)
theorem dX9_isOne_0 : decode cX9_isOne 0 = .ok (.iload_n 0, 1) := by decide +kernel
theorem dX9_isOne_1 : decode cX9_isOne 1 = .ok (.ifCond .lt 13, 3) := by decide +kernel
theorem dX9_isOne_4 : decode cX9_isOne 4 = .ok (.iload_n 0, 1) := by decide +kernel
theorem dX9_isOne_5 : decode cX9_isOne 5 = .ok (.bipush 6, 2) := by decide +kernel
theorem dX9_isOne_7 : decode cX9_isOne 7 = .ok (.if_icmp .ge 7, 3) := by decide +kernel
theorem dX9_isOne_10 : decode cX9_isOne 10 = .ok (.iconst 1, 1) := by decide +kernel
theorem dX9_isOne_11 : decode cX9_isOne 11 = .ok (.goto 4, 3) := by decide +kernel
theorem dX9_isOne_14 : decode cX9_isOne 14 = .ok (.iconst 0, 1) := by decide +kernel
theorem dX9_isOne_15 : decode cX9_isOne 15 = .ok (.ireturn, 1) := by decide +kernel
abbrev x_X9_isOne (E : mh_E) (d mc ms : Nat) (Post : Option Value → mh_H → Prop) : mh_X := (E, yX9_isOne, cX9_isOne, 1, (some .boolean), d, mc, ms, Post)
def q_X9_isOne_15 (X : mh_X) : mh_PR := s_zret X
theorem b_X9_isOne_15 {E : mh_E} {d mc ms : Nat} {Post : Option Value → mh_H → Prop} : mh_S (x_X9_isOne E d mc ms Post) 15 (q_X9_isOne_15 (x_X9_isOne E d mc ms Post)) := sn_zret rfl dX9_isOne_15
def q_X9_isOne_14 (X : mh_X) : mh_PR := s_push (.int (0)) (q_X9_isOne_15 X)
theorem b_X9_isOne_14 {E : mh_E} {d mc ms : Nat} {Post : Option Value → mh_H → Prop} : mh_S (x_X9_isOne E d mc ms Post) 14 (q_X9_isOne_14 (x_X9_isOne E d mc ms Post)) := sn_iconst dX9_isOne_14 (by decide) b_X9_isOne_15
def q_X9_isOne_0 (X : mh_X) : mh_PR := s_il 0 (s_if1 (fun x => x < 0) (q_X9_isOne_14 X) (s_il 0 (s_push (.int (6)) (s_if2 (fun x y => y ≤ x) (q_X9_isOne_14 X) (s_push (.int (1)) (q_X9_isOne_15 X))))))
theorem b_X9_isOne_0 {E : mh_E} {d mc ms : Nat} {Post : Option Value → mh_H → Prop} : mh_S (x_X9_isOne E d mc ms Post) 0 (q_X9_isOne_0 (x_X9_isOne E d mc ms Post)) := sn_iload_n dX9_isOne_0 rfl (sn_if_lt (tgt := 14) dX9_isOne_1 (by decide) (b_X9_isOne_14) (sn_iload_n dX9_isOne_4 rfl (sn_bipush dX9_isOne_5 (by decide) (sn_icmp_ge (tgt := 14) dX9_isOne_7 (by decide) (b_X9_isOne_14) (sn_iconst dX9_isOne_10 (by decide) (sn_goto (tgt := 15) dX9_isOne_11 (by decide) (b_X9_isOne_15)))))))
theorem m_X9_isOne {E : mh_E} {d mc ms : Nat} {args : List Value} {h : mh_H} {Post : Option Value → mh_H → Prop} (lv : List (Option Value)) (hl : lv_args 0 args = mh_al 0 lv) (hs : (lg_sl args).length ≤ 1) (hG : q_X9_isOne_0 (x_X9_isOne E d mc ms Post) lv [] h 0 0) : mh_M E d mc ms yX9_isOne args h Post := mh_M.of w_377 (by decide) (by decide) hl hs (b_X9_isOne_0 _ _ _ _ _ hG)
theorem dX9_isSquare_0 : decode cX9_isSquare 0 = .ok (.iload_n 0, 1) := by decide +kernel
theorem dX9_isSquare_1 : decode cX9_isSquare 1 = .ok (.ifCond .lt 12, 3) := by decide +kernel
theorem dX9_isSquare_4 : decode cX9_isSquare 4 = .ok (.iload_n 0, 1) := by decide +kernel
theorem dX9_isSquare_5 : decode cX9_isSquare 5 = .ok (.iconst 4, 1) := by decide +kernel
theorem dX9_isSquare_6 : decode cX9_isSquare 6 = .ok (.if_icmp .ge 7, 3) := by decide +kernel
theorem dX9_isSquare_9 : decode cX9_isSquare 9 = .ok (.iconst 1, 1) := by decide +kernel
theorem dX9_isSquare_10 : decode cX9_isSquare 10 = .ok (.goto 4, 3) := by decide +kernel
theorem dX9_isSquare_13 : decode cX9_isSquare 13 = .ok (.iconst 0, 1) := by decide +kernel
theorem dX9_isSquare_14 : decode cX9_isSquare 14 = .ok (.ireturn, 1) := by decide +kernel
abbrev x_X9_isSquare (E : mh_E) (d mc ms : Nat) (Post : Option Value → mh_H → Prop) : mh_X := (E, yX9_isSquare, cX9_isSquare, 1, (some .boolean), d, mc, ms, Post)
def q_X9_isSquare_14 (X : mh_X) : mh_PR := s_zret X
theorem b_X9_isSquare_14 {E : mh_E} {d mc ms : Nat} {Post : Option Value → mh_H → Prop} : mh_S (x_X9_isSquare E d mc ms Post) 14 (q_X9_isSquare_14 (x_X9_isSquare E d mc ms Post)) := sn_zret rfl dX9_isSquare_14
def q_X9_isSquare_13 (X : mh_X) : mh_PR := s_push (.int (0)) (q_X9_isSquare_14 X)
theorem b_X9_isSquare_13 {E : mh_E} {d mc ms : Nat} {Post : Option Value → mh_H → Prop} : mh_S (x_X9_isSquare E d mc ms Post) 13 (q_X9_isSquare_13 (x_X9_isSquare E d mc ms Post)) := sn_iconst dX9_isSquare_13 (by decide) b_X9_isSquare_14
def q_X9_isSquare_0 (X : mh_X) : mh_PR := s_il 0 (s_if1 (fun x => x < 0) (q_X9_isSquare_13 X) (s_il 0 (s_push (.int (4)) (s_if2 (fun x y => y ≤ x) (q_X9_isSquare_13 X) (s_push (.int (1)) (q_X9_isSquare_14 X))))))
theorem b_X9_isSquare_0 {E : mh_E} {d mc ms : Nat} {Post : Option Value → mh_H → Prop} : mh_S (x_X9_isSquare E d mc ms Post) 0 (q_X9_isSquare_0 (x_X9_isSquare E d mc ms Post)) := sn_iload_n dX9_isSquare_0 rfl (sn_if_lt (tgt := 13) dX9_isSquare_1 (by decide) (b_X9_isSquare_13) (sn_iload_n dX9_isSquare_4 rfl (sn_iconst dX9_isSquare_5 (by decide) (sn_icmp_ge (tgt := 13) dX9_isSquare_6 (by decide) (b_X9_isSquare_13) (sn_iconst dX9_isSquare_9 (by decide) (sn_goto (tgt := 14) dX9_isSquare_10 (by decide) (b_X9_isSquare_14)))))))
theorem m_X9_isSquare {E : mh_E} {d mc ms : Nat} {args : List Value} {h : mh_H} {Post : Option Value → mh_H → Prop} (lv : List (Option Value)) (hl : lv_args 0 args = mh_al 0 lv) (hs : (lg_sl args).length ≤ 1) (hG : q_X9_isSquare_0 (x_X9_isSquare E d mc ms Post) lv [] h 0 0) : mh_M E d mc ms yX9_isSquare args h Post := mh_M.of w_380 (by decide) (by decide) hl hs (b_X9_isSquare_0 _ _ _ _ _ hG)
theorem dX9_isRank_0 : decode cX9_isRank 0 = .ok (.iload_n 0, 1) := by decide +kernel
theorem dX9_isRank_1 : decode cX9_isRank 1 = .ok (.ifCond .lt 13, 3) := by decide +kernel
theorem dX9_isRank_4 : decode cX9_isRank 4 = .ok (.iload_n 0, 1) := by decide +kernel
theorem dX9_isRank_5 : decode cX9_isRank 5 = .ok (.bipush 10, 2) := by decide +kernel
theorem dX9_isRank_7 : decode cX9_isRank 7 = .ok (.if_icmp .ge 7, 3) := by decide +kernel
theorem dX9_isRank_10 : decode cX9_isRank 10 = .ok (.iconst 1, 1) := by decide +kernel
theorem dX9_isRank_11 : decode cX9_isRank 11 = .ok (.goto 4, 3) := by decide +kernel
theorem dX9_isRank_14 : decode cX9_isRank 14 = .ok (.iconst 0, 1) := by decide +kernel
theorem dX9_isRank_15 : decode cX9_isRank 15 = .ok (.ireturn, 1) := by decide +kernel
abbrev x_X9_isRank (E : mh_E) (d mc ms : Nat) (Post : Option Value → mh_H → Prop) : mh_X := (E, yX9_isRank, cX9_isRank, 1, (some .boolean), d, mc, ms, Post)
def q_X9_isRank_15 (X : mh_X) : mh_PR := s_zret X
theorem b_X9_isRank_15 {E : mh_E} {d mc ms : Nat} {Post : Option Value → mh_H → Prop} : mh_S (x_X9_isRank E d mc ms Post) 15 (q_X9_isRank_15 (x_X9_isRank E d mc ms Post)) := sn_zret rfl dX9_isRank_15
def q_X9_isRank_14 (X : mh_X) : mh_PR := s_push (.int (0)) (q_X9_isRank_15 X)
theorem b_X9_isRank_14 {E : mh_E} {d mc ms : Nat} {Post : Option Value → mh_H → Prop} : mh_S (x_X9_isRank E d mc ms Post) 14 (q_X9_isRank_14 (x_X9_isRank E d mc ms Post)) := sn_iconst dX9_isRank_14 (by decide) b_X9_isRank_15
def q_X9_isRank_0 (X : mh_X) : mh_PR := s_il 0 (s_if1 (fun x => x < 0) (q_X9_isRank_14 X) (s_il 0 (s_push (.int (10)) (s_if2 (fun x y => y ≤ x) (q_X9_isRank_14 X) (s_push (.int (1)) (q_X9_isRank_15 X))))))
theorem b_X9_isRank_0 {E : mh_E} {d mc ms : Nat} {Post : Option Value → mh_H → Prop} : mh_S (x_X9_isRank E d mc ms Post) 0 (q_X9_isRank_0 (x_X9_isRank E d mc ms Post)) := sn_iload_n dX9_isRank_0 rfl (sn_if_lt (tgt := 14) dX9_isRank_1 (by decide) (b_X9_isRank_14) (sn_iload_n dX9_isRank_4 rfl (sn_bipush dX9_isRank_5 (by decide) (sn_icmp_ge (tgt := 14) dX9_isRank_7 (by decide) (b_X9_isRank_14) (sn_iconst dX9_isRank_10 (by decide) (sn_goto (tgt := 15) dX9_isRank_11 (by decide) (b_X9_isRank_15)))))))
theorem m_X9_isRank {E : mh_E} {d mc ms : Nat} {args : List Value} {h : mh_H} {Post : Option Value → mh_H → Prop} (lv : List (Option Value)) (hl : lv_args 0 args = mh_al 0 lv) (hs : (lg_sl args).length ≤ 1) (hG : q_X9_isRank_0 (x_X9_isRank E d mc ms Post) lv [] h 0 0) : mh_M E d mc ms yX9_isRank args h Post := mh_M.of w_383 (by decide) (by decide) hl hs (b_X9_isRank_0 _ _ _ _ _ hG)
theorem dX9_isYear_0 : decode cX9_isYear 0 = .ok (.iload_n 0, 1) := by decide +kernel
theorem dX9_isYear_1 : decode cX9_isYear 1 = .ok (.ifCond .lt 14, 3) := by decide +kernel
theorem dX9_isYear_4 : decode cX9_isYear 4 = .ok (.iload_n 0, 1) := by decide +kernel
theorem dX9_isYear_5 : decode cX9_isYear 5 = .ok (.sipush 9999, 3) := by decide +kernel
theorem dX9_isYear_8 : decode cX9_isYear 8 = .ok (.if_icmp .gt 7, 3) := by decide +kernel
theorem dX9_isYear_11 : decode cX9_isYear 11 = .ok (.iconst 1, 1) := by decide +kernel
theorem dX9_isYear_12 : decode cX9_isYear 12 = .ok (.goto 4, 3) := by decide +kernel
theorem dX9_isYear_15 : decode cX9_isYear 15 = .ok (.iconst 0, 1) := by decide +kernel
theorem dX9_isYear_16 : decode cX9_isYear 16 = .ok (.ireturn, 1) := by decide +kernel
abbrev x_X9_isYear (E : mh_E) (d mc ms : Nat) (Post : Option Value → mh_H → Prop) : mh_X := (E, yX9_isYear, cX9_isYear, 1, (some .boolean), d, mc, ms, Post)
def q_X9_isYear_16 (X : mh_X) : mh_PR := s_zret X
theorem b_X9_isYear_16 {E : mh_E} {d mc ms : Nat} {Post : Option Value → mh_H → Prop} : mh_S (x_X9_isYear E d mc ms Post) 16 (q_X9_isYear_16 (x_X9_isYear E d mc ms Post)) := sn_zret rfl dX9_isYear_16
def q_X9_isYear_15 (X : mh_X) : mh_PR := s_push (.int (0)) (q_X9_isYear_16 X)
theorem b_X9_isYear_15 {E : mh_E} {d mc ms : Nat} {Post : Option Value → mh_H → Prop} : mh_S (x_X9_isYear E d mc ms Post) 15 (q_X9_isYear_15 (x_X9_isYear E d mc ms Post)) := sn_iconst dX9_isYear_15 (by decide) b_X9_isYear_16
def q_X9_isYear_0 (X : mh_X) : mh_PR := s_il 0 (s_if1 (fun x => x < 0) (q_X9_isYear_15 X) (s_il 0 (s_push (.int (9999)) (s_if2 (fun x y => y < x) (q_X9_isYear_15 X) (s_push (.int (1)) (q_X9_isYear_16 X))))))
theorem b_X9_isYear_0 {E : mh_E} {d mc ms : Nat} {Post : Option Value → mh_H → Prop} : mh_S (x_X9_isYear E d mc ms Post) 0 (q_X9_isYear_0 (x_X9_isYear E d mc ms Post)) := sn_iload_n dX9_isYear_0 rfl (sn_if_lt (tgt := 15) dX9_isYear_1 (by decide) (b_X9_isYear_15) (sn_iload_n dX9_isYear_4 rfl (sn_sipush dX9_isYear_5 (by decide) (sn_icmp_gt (tgt := 15) dX9_isYear_8 (by decide) (b_X9_isYear_15) (sn_iconst dX9_isYear_11 (by decide) (sn_goto (tgt := 16) dX9_isYear_12 (by decide) (b_X9_isYear_16)))))))
theorem m_X9_isYear {E : mh_E} {d mc ms : Nat} {args : List Value} {h : mh_H} {Post : Option Value → mh_H → Prop} (lv : List (Option Value)) (hl : lv_args 0 args = mh_al 0 lv) (hs : (lg_sl args).length ≤ 1) (hG : q_X9_isYear_0 (x_X9_isYear E d mc ms Post) lv [] h 0 0) : mh_M E d mc ms yX9_isYear args h Post := mh_M.of w_386 (by decide) (by decide) hl hs (b_X9_isYear_0 _ _ _ _ _ hG)
theorem dX9_isSheet_0 : decode cX9_isSheet 0 = .ok (.iload_n 0, 1) := by decide +kernel
theorem dX9_isSheet_1 : decode cX9_isSheet 1 = .ok (.ifCond .lt 12, 3) := by decide +kernel
theorem dX9_isSheet_4 : decode cX9_isSheet 4 = .ok (.iload_n 0, 1) := by decide +kernel
theorem dX9_isSheet_5 : decode cX9_isSheet 5 = .ok (.iconst 4, 1) := by decide +kernel
theorem dX9_isSheet_6 : decode cX9_isSheet 6 = .ok (.if_icmp .ge 7, 3) := by decide +kernel
theorem dX9_isSheet_9 : decode cX9_isSheet 9 = .ok (.iconst 1, 1) := by decide +kernel
theorem dX9_isSheet_10 : decode cX9_isSheet 10 = .ok (.goto 4, 3) := by decide +kernel
theorem dX9_isSheet_13 : decode cX9_isSheet 13 = .ok (.iconst 0, 1) := by decide +kernel
theorem dX9_isSheet_14 : decode cX9_isSheet 14 = .ok (.ireturn, 1) := by decide +kernel
abbrev x_X9_isSheet (E : mh_E) (d mc ms : Nat) (Post : Option Value → mh_H → Prop) : mh_X := (E, yX9_isSheet, cX9_isSheet, 1, (some .boolean), d, mc, ms, Post)
def q_X9_isSheet_14 (X : mh_X) : mh_PR := s_zret X
theorem b_X9_isSheet_14 {E : mh_E} {d mc ms : Nat} {Post : Option Value → mh_H → Prop} : mh_S (x_X9_isSheet E d mc ms Post) 14 (q_X9_isSheet_14 (x_X9_isSheet E d mc ms Post)) := sn_zret rfl dX9_isSheet_14
def q_X9_isSheet_13 (X : mh_X) : mh_PR := s_push (.int (0)) (q_X9_isSheet_14 X)
theorem b_X9_isSheet_13 {E : mh_E} {d mc ms : Nat} {Post : Option Value → mh_H → Prop} : mh_S (x_X9_isSheet E d mc ms Post) 13 (q_X9_isSheet_13 (x_X9_isSheet E d mc ms Post)) := sn_iconst dX9_isSheet_13 (by decide) b_X9_isSheet_14
def q_X9_isSheet_0 (X : mh_X) : mh_PR := s_il 0 (s_if1 (fun x => x < 0) (q_X9_isSheet_13 X) (s_il 0 (s_push (.int (4)) (s_if2 (fun x y => y ≤ x) (q_X9_isSheet_13 X) (s_push (.int (1)) (q_X9_isSheet_14 X))))))
theorem b_X9_isSheet_0 {E : mh_E} {d mc ms : Nat} {Post : Option Value → mh_H → Prop} : mh_S (x_X9_isSheet E d mc ms Post) 0 (q_X9_isSheet_0 (x_X9_isSheet E d mc ms Post)) := sn_iload_n dX9_isSheet_0 rfl (sn_if_lt (tgt := 13) dX9_isSheet_1 (by decide) (b_X9_isSheet_13) (sn_iload_n dX9_isSheet_4 rfl (sn_iconst dX9_isSheet_5 (by decide) (sn_icmp_ge (tgt := 13) dX9_isSheet_6 (by decide) (b_X9_isSheet_13) (sn_iconst dX9_isSheet_9 (by decide) (sn_goto (tgt := 14) dX9_isSheet_10 (by decide) (b_X9_isSheet_14)))))))
theorem m_X9_isSheet {E : mh_E} {d mc ms : Nat} {args : List Value} {h : mh_H} {Post : Option Value → mh_H → Prop} (lv : List (Option Value)) (hl : lv_args 0 args = mh_al 0 lv) (hs : (lg_sl args).length ≤ 1) (hG : q_X9_isSheet_0 (x_X9_isSheet E d mc ms Post) lv [] h 0 0) : mh_M E d mc ms yX9_isSheet args h Post := mh_M.of w_728 (by decide) (by decide) hl hs (b_X9_isSheet_0 _ _ _ _ _ hG)
theorem dX9_isSlot_0 : decode cX9_isSlot 0 = .ok (.iload_n 0, 1) := by decide +kernel
theorem dX9_isSlot_1 : decode cX9_isSlot 1 = .ok (.ifCond .lt 12, 3) := by decide +kernel
theorem dX9_isSlot_4 : decode cX9_isSlot 4 = .ok (.iload_n 0, 1) := by decide +kernel
theorem dX9_isSlot_5 : decode cX9_isSlot 5 = .ok (.iconst 5, 1) := by decide +kernel
theorem dX9_isSlot_6 : decode cX9_isSlot 6 = .ok (.if_icmp .ge 7, 3) := by decide +kernel
theorem dX9_isSlot_9 : decode cX9_isSlot 9 = .ok (.iconst 1, 1) := by decide +kernel
theorem dX9_isSlot_10 : decode cX9_isSlot 10 = .ok (.goto 4, 3) := by decide +kernel
theorem dX9_isSlot_13 : decode cX9_isSlot 13 = .ok (.iconst 0, 1) := by decide +kernel
theorem dX9_isSlot_14 : decode cX9_isSlot 14 = .ok (.ireturn, 1) := by decide +kernel
abbrev x_X9_isSlot (E : mh_E) (d mc ms : Nat) (Post : Option Value → mh_H → Prop) : mh_X := (E, yX9_isSlot, cX9_isSlot, 1, (some .boolean), d, mc, ms, Post)
def q_X9_isSlot_14 (X : mh_X) : mh_PR := s_zret X
theorem b_X9_isSlot_14 {E : mh_E} {d mc ms : Nat} {Post : Option Value → mh_H → Prop} : mh_S (x_X9_isSlot E d mc ms Post) 14 (q_X9_isSlot_14 (x_X9_isSlot E d mc ms Post)) := sn_zret rfl dX9_isSlot_14
def q_X9_isSlot_13 (X : mh_X) : mh_PR := s_push (.int (0)) (q_X9_isSlot_14 X)
theorem b_X9_isSlot_13 {E : mh_E} {d mc ms : Nat} {Post : Option Value → mh_H → Prop} : mh_S (x_X9_isSlot E d mc ms Post) 13 (q_X9_isSlot_13 (x_X9_isSlot E d mc ms Post)) := sn_iconst dX9_isSlot_13 (by decide) b_X9_isSlot_14
def q_X9_isSlot_0 (X : mh_X) : mh_PR := s_il 0 (s_if1 (fun x => x < 0) (q_X9_isSlot_13 X) (s_il 0 (s_push (.int (5)) (s_if2 (fun x y => y ≤ x) (q_X9_isSlot_13 X) (s_push (.int (1)) (q_X9_isSlot_14 X))))))
theorem b_X9_isSlot_0 {E : mh_E} {d mc ms : Nat} {Post : Option Value → mh_H → Prop} : mh_S (x_X9_isSlot E d mc ms Post) 0 (q_X9_isSlot_0 (x_X9_isSlot E d mc ms Post)) := sn_iload_n dX9_isSlot_0 rfl (sn_if_lt (tgt := 13) dX9_isSlot_1 (by decide) (b_X9_isSlot_13) (sn_iload_n dX9_isSlot_4 rfl (sn_iconst dX9_isSlot_5 (by decide) (sn_icmp_ge (tgt := 13) dX9_isSlot_6 (by decide) (b_X9_isSlot_13) (sn_iconst dX9_isSlot_9 (by decide) (sn_goto (tgt := 14) dX9_isSlot_10 (by decide) (b_X9_isSlot_14)))))))
theorem m_X9_isSlot {E : mh_E} {d mc ms : Nat} {args : List Value} {h : mh_H} {Post : Option Value → mh_H → Prop} (lv : List (Option Value)) (hl : lv_args 0 args = mh_al 0 lv) (hs : (lg_sl args).length ≤ 1) (hG : q_X9_isSlot_0 (x_X9_isSlot E d mc ms Post) lv [] h 0 0) : mh_M E d mc ms yX9_isSlot args h Post := mh_M.of w_1055 (by decide) (by decide) hl hs (b_X9_isSlot_0 _ _ _ _ _ hG)
theorem dX9_isStone_0 : decode cX9_isStone 0 = .ok (.iload_n 1, 1) := by decide +kernel
theorem dX9_isStone_1 : decode cX9_isStone 1 = .ok (.ifCond .lt 24, 3) := by decide +kernel
theorem dX9_isStone_4 : decode cX9_isStone 4 = .ok (.iload_n 1, 1) := by decide +kernel
theorem dX9_isStone_5 : decode cX9_isStone 5 = .ok (.aload_n 0, 1) := by decide +kernel
theorem dX9_isStone_6 : decode cX9_isStone 6 = .ok (.getfield 12, 3) := by decide +kernel
theorem dX9_isStone_9 : decode cX9_isStone 9 = .ok (.getfield 180, 3) := by decide +kernel
theorem dX9_isStone_12 : decode cX9_isStone 12 = .ok (.if_icmp .ge 13, 3) := by decide +kernel
theorem dX9_isStone_15 : decode cX9_isStone 15 = .ok (.iload_n 1, 1) := by decide +kernel
theorem dX9_isStone_16 : decode cX9_isStone 16 = .ok (.bipush 10, 2) := by decide +kernel
theorem dX9_isStone_18 : decode cX9_isStone 18 = .ok (.if_icmp .ge 7, 3) := by decide +kernel
theorem dX9_isStone_21 : decode cX9_isStone 21 = .ok (.iconst 1, 1) := by decide +kernel
theorem dX9_isStone_22 : decode cX9_isStone 22 = .ok (.goto 4, 3) := by decide +kernel
theorem dX9_isStone_25 : decode cX9_isStone 25 = .ok (.iconst 0, 1) := by decide +kernel
theorem dX9_isStone_26 : decode cX9_isStone 26 = .ok (.ireturn, 1) := by decide +kernel
abbrev x_X9_isStone (E : mh_E) (d mc ms : Nat) (Post : Option Value → mh_H → Prop) : mh_X := (E, yX9_isStone, cX9_isStone, 2, (some .boolean), d, mc, ms, Post)
def q_X9_isStone_26 (X : mh_X) : mh_PR := s_zret X
theorem b_X9_isStone_26 {E : mh_E} {d mc ms : Nat} {Post : Option Value → mh_H → Prop} : mh_S (x_X9_isStone E d mc ms Post) 26 (q_X9_isStone_26 (x_X9_isStone E d mc ms Post)) := sn_zret rfl dX9_isStone_26
def q_X9_isStone_25 (X : mh_X) : mh_PR := s_push (.int (0)) (q_X9_isStone_26 X)
theorem b_X9_isStone_25 {E : mh_E} {d mc ms : Nat} {Post : Option Value → mh_H → Prop} : mh_S (x_X9_isStone E d mc ms Post) 25 (q_X9_isStone_25 (x_X9_isStone E d mc ms Post)) := sn_iconst dX9_isStone_25 (by decide) b_X9_isStone_26
def q_X9_isStone_0 (X : mh_X) : mh_PR := s_il 1 (s_if1 (fun x => x < 0) (q_X9_isStone_25 X) (s_il 1 (s_al 0 (s_gr 9 0 (s_gi 0 3 (s_if2 (fun x y => y ≤ x) (q_X9_isStone_25 X) (s_il 1 (s_push (.int (10)) (s_if2 (fun x y => y ≤ x) (q_X9_isStone_25 X) (s_push (.int (1)) (q_X9_isStone_26 X)))))))))))
theorem b_X9_isStone_0 {E : mh_E} {d mc ms : Nat} {Post : Option Value → mh_H → Prop} : mh_S (x_X9_isStone E d mc ms Post) 0 (q_X9_isStone_0 (x_X9_isStone E d mc ms Post)) := sn_iload_n dX9_isStone_0 rfl (sn_if_lt (tgt := 25) dX9_isStone_1 (by decide) (b_X9_isStone_25) (sn_iload_n dX9_isStone_4 rfl (sn_aload_n dX9_isStone_5 rfl (sn_getr clX9 (by decide) w_334 dX9_isStone_6 (sn_geti clX0 (by decide) w_184 dX9_isStone_9 (sn_icmp_ge (tgt := 25) dX9_isStone_12 (by decide) (b_X9_isStone_25) (sn_iload_n dX9_isStone_15 rfl (sn_bipush dX9_isStone_16 (by decide) (sn_icmp_ge (tgt := 25) dX9_isStone_18 (by decide) (b_X9_isStone_25) (sn_iconst dX9_isStone_21 (by decide) (sn_goto (tgt := 26) dX9_isStone_22 (by decide) (b_X9_isStone_26))))))))))))
theorem m_X9_isStone {E : mh_E} {d mc ms : Nat} {args : List Value} {h : mh_H} {Post : Option Value → mh_H → Prop} (lv : List (Option Value)) (hl : lv_args 0 args = mh_al 0 lv) (hs : (lg_sl args).length ≤ 2) (hG : q_X9_isStone_0 (x_X9_isStone E d mc ms Post) lv [] h 0 0) : mh_M E d mc ms yX9_isStone args h Post := mh_M.of w_401 (by decide) (by decide) hl hs (b_X9_isStone_0 _ _ _ _ _ hG)
theorem dX9_yearsUntilHolding_0 : decode cX9_yearsUntilHolding 0 = .ok (.aload_n 0, 1) := by decide +kernel
theorem dX9_yearsUntilHolding_1 : decode cX9_yearsUntilHolding 1 = .ok (.getfield 19, 3) := by decide +kernel
theorem dX9_yearsUntilHolding_4 : decode cX9_yearsUntilHolding 4 = .ok (.aload_n 0, 1) := by decide +kernel
theorem dX9_yearsUntilHolding_5 : decode cX9_yearsUntilHolding 5 = .ok (.getfield 12, 3) := by decide +kernel
theorem dX9_yearsUntilHolding_8 : decode cX9_yearsUntilHolding 8 = .ok (.invokevirtual 226, 3) := by decide +kernel
theorem dX9_yearsUntilHolding_11 : decode cX9_yearsUntilHolding 11 = .ok (.iconst 1, 1) := by decide +kernel
theorem dX9_yearsUntilHolding_12 : decode cX9_yearsUntilHolding 12 = .ok (.istore_n 3, 1) := by decide +kernel
theorem dX9_yearsUntilHolding_13 : decode cX9_yearsUntilHolding 13 = .ok (.iload_n 3, 1) := by decide +kernel
theorem dX9_yearsUntilHolding_14 : decode cX9_yearsUntilHolding 14 = .ok (.iload_n 2, 1) := by decide +kernel
theorem dX9_yearsUntilHolding_15 : decode cX9_yearsUntilHolding 15 = .ok (.if_icmp .gt 29, 3) := by decide +kernel
theorem dX9_yearsUntilHolding_18 : decode cX9_yearsUntilHolding 18 = .ok (.aload_n 0, 1) := by decide +kernel
theorem dX9_yearsUntilHolding_19 : decode cX9_yearsUntilHolding 19 = .ok (.getfield 19, 3) := by decide +kernel
theorem dX9_yearsUntilHolding_22 : decode cX9_yearsUntilHolding 22 = .ok (.invokevirtual 358, 3) := by decide +kernel
theorem dX9_yearsUntilHolding_25 : decode cX9_yearsUntilHolding 25 = .ok (.aload_n 0, 1) := by decide +kernel
theorem dX9_yearsUntilHolding_26 : decode cX9_yearsUntilHolding 26 = .ok (.getfield 19, 3) := by decide +kernel
theorem dX9_yearsUntilHolding_29 : decode cX9_yearsUntilHolding 29 = .ok (.aload_n 1, 1) := by decide +kernel
theorem dX9_yearsUntilHolding_30 : decode cX9_yearsUntilHolding 30 = .ok (.invokevirtual 113, 3) := by decide +kernel
theorem dX9_yearsUntilHolding_33 : decode cX9_yearsUntilHolding 33 = .ok (.ifCond .eq 5, 3) := by decide +kernel
theorem dX9_yearsUntilHolding_36 : decode cX9_yearsUntilHolding 36 = .ok (.iload_n 3, 1) := by decide +kernel
theorem dX9_yearsUntilHolding_37 : decode cX9_yearsUntilHolding 37 = .ok (.ireturn, 1) := by decide +kernel
theorem dX9_yearsUntilHolding_38 : decode cX9_yearsUntilHolding 38 = .ok (.iinc 3 1, 3) := by decide +kernel
theorem dX9_yearsUntilHolding_41 : decode cX9_yearsUntilHolding 41 = .ok (.goto (-28), 3) := by decide +kernel
theorem dX9_yearsUntilHolding_44 : decode cX9_yearsUntilHolding 44 = .ok (.ldc 147, 2) := by decide +kernel
theorem dX9_yearsUntilHolding_46 : decode cX9_yearsUntilHolding 46 = .ok (.ireturn, 1) := by decide +kernel
abbrev x_X9_yearsUntilHolding (E : mh_E) (d mc ms : Nat) (Post : Option Value → mh_H → Prop) : mh_X := (E, yX9_yearsUntilHolding, cX9_yearsUntilHolding, 4, (some .int), d, mc, ms, Post)
def q_X9_yearsUntilHolding_13 (X : mh_X) : mh_PR := s_il 3 (s_il 2 (s_if2 (fun x y => y < x) (s_push (.int (-1000000005)) (s_iret X)) (s_al 0 (s_gr 9 2 (s_cv X yX0_stir 0 0 (s_al 0 (s_gr 9 2 (s_al 1 (s_cv X yX0_holds 0 1 (s_if1 (fun x => x = 0) (s_inc 3 (1) (mh_G X 13)) (s_il 3 (s_iret X))))))))))))
theorem b_X9_yearsUntilHolding_13 {E : mh_E} {d mc ms : Nat} {Post : Option Value → mh_H → Prop} : mh_S (x_X9_yearsUntilHolding E d mc ms Post) 13 (q_X9_yearsUntilHolding_13 (x_X9_yearsUntilHolding E d mc ms Post)) := sn_iload_n dX9_yearsUntilHolding_13 rfl (sn_iload_n dX9_yearsUntilHolding_14 rfl (sn_icmp_gt (tgt := 44) dX9_yearsUntilHolding_15 (by decide) (sn_ldc dX9_yearsUntilHolding_44 w_511 (sn_iret rfl dX9_yearsUntilHolding_46)) (sn_aload_n dX9_yearsUntilHolding_18 rfl (sn_getr clX9 (by decide) w_336 dX9_yearsUntilHolding_19 (sn_cv w_695 w_575 w_576 w_57 rfl nm_X0_stir dX9_yearsUntilHolding_22 (sn_aload_n dX9_yearsUntilHolding_25 rfl (sn_getr clX9 (by decide) w_336 dX9_yearsUntilHolding_26 (sn_aload_n dX9_yearsUntilHolding_29 rfl (sn_cv w_402 w_403 w_404 w_57 rfl nm_X0_holds dX9_yearsUntilHolding_30 (sn_if_eq (tgt := 38) dX9_yearsUntilHolding_33 (by decide) (sn_iinc dX9_yearsUntilHolding_38 (by decide) (Nat.le_of_ble_eq_true rfl) (sn_goto (tgt := 13) dX9_yearsUntilHolding_41 (by decide) (mh_S.G))) (sn_iload_n dX9_yearsUntilHolding_36 rfl (sn_iret rfl dX9_yearsUntilHolding_37))))))))))))
def q_X9_yearsUntilHolding_0 (X : mh_X) : mh_PR := s_al 0 (s_gr 9 2 (s_al 0 (s_gr 9 0 (s_cv X yX0_become 0 1 (s_push (.int (1)) (s_is 3 (mh_G X 13)))))))
theorem b_X9_yearsUntilHolding_0 {E : mh_E} {d mc ms : Nat} {Post : Option Value → mh_H → Prop} : mh_S (x_X9_yearsUntilHolding E d mc ms Post) 0 (q_X9_yearsUntilHolding_0 (x_X9_yearsUntilHolding E d mc ms Post)) := sn_aload_n dX9_yearsUntilHolding_0 rfl (sn_getr clX9 (by decide) w_336 dX9_yearsUntilHolding_1 (sn_aload_n dX9_yearsUntilHolding_4 rfl (sn_getr clX9 (by decide) w_334 dX9_yearsUntilHolding_5 (sn_cv w_658 w_659 w_660 w_57 rfl nm_X0_become dX9_yearsUntilHolding_8 (sn_iconst dX9_yearsUntilHolding_11 (by decide) (sn_istore_n dX9_yearsUntilHolding_12 rfl (Nat.le_of_ble_eq_true rfl) mh_S.G))))))
theorem m_X9_yearsUntilHolding {E : mh_E} {d mc ms : Nat} {args : List Value} {h : mh_H} {Post : Option Value → mh_H → Prop} (lv : List (Option Value)) (hl : lv_args 0 args = mh_al 0 lv) (hs : (lg_sl args).length ≤ 4) (hG : q_X9_yearsUntilHolding_0 (x_X9_yearsUntilHolding E d mc ms Post) lv [] h 0 0) : mh_M E d mc ms yX9_yearsUntilHolding args h Post := mh_M.of w_694 (by decide) (by decide) hl hs (b_X9_yearsUntilHolding_0 _ _ _ _ _ hG)
theorem dX9_sumCosts_0 : decode cX9_sumCosts 0 = .ok (.aload_n 0, 1) := by decide +kernel
theorem dX9_sumCosts_1 : decode cX9_sumCosts 1 = .ok (.getfield 52, 3) := by decide +kernel
theorem dX9_sumCosts_4 : decode cX9_sumCosts 4 = .ok (.iconst 0, 1) := by decide +kernel
theorem dX9_sumCosts_5 : decode cX9_sumCosts 5 = .ok (.invokestatic 361, 3) := by decide +kernel
theorem dX9_sumCosts_8 : decode cX9_sumCosts 8 = .ok (.aload_n 0, 1) := by decide +kernel
theorem dX9_sumCosts_9 : decode cX9_sumCosts 9 = .ok (.getfield 19, 3) := by decide +kernel
theorem dX9_sumCosts_12 : decode cX9_sumCosts 12 = .ok (.aload_n 0, 1) := by decide +kernel
theorem dX9_sumCosts_13 : decode cX9_sumCosts 13 = .ok (.getfield 12, 3) := by decide +kernel
theorem dX9_sumCosts_16 : decode cX9_sumCosts 16 = .ok (.invokevirtual 226, 3) := by decide +kernel
theorem dX9_sumCosts_19 : decode cX9_sumCosts 19 = .ok (.iconst 0, 1) := by decide +kernel
theorem dX9_sumCosts_20 : decode cX9_sumCosts 20 = .ok (.istore_n 2, 1) := by decide +kernel
theorem dX9_sumCosts_21 : decode cX9_sumCosts 21 = .ok (.iload_n 2, 1) := by decide +kernel
theorem dX9_sumCosts_22 : decode cX9_sumCosts 22 = .ok (.iload_n 1, 1) := by decide +kernel
theorem dX9_sumCosts_23 : decode cX9_sumCosts 23 = .ok (.if_icmp .ge 102, 3) := by decide +kernel
theorem dX9_sumCosts_26 : decode cX9_sumCosts 26 = .ok (.aload_n 0, 1) := by decide +kernel
theorem dX9_sumCosts_27 : decode cX9_sumCosts 27 = .ok (.getfield 19, 3) := by decide +kernel
theorem dX9_sumCosts_30 : decode cX9_sumCosts 30 = .ok (.invokevirtual 358, 3) := by decide +kernel
theorem dX9_sumCosts_33 : decode cX9_sumCosts 33 = .ok (.aload_n 0, 1) := by decide +kernel
theorem dX9_sumCosts_34 : decode cX9_sumCosts 34 = .ok (.getfield 19, 3) := by decide +kernel
theorem dX9_sumCosts_37 : decode cX9_sumCosts 37 = .ok (.invokevirtual 367, 3) := by decide +kernel
theorem dX9_sumCosts_40 : decode cX9_sumCosts 40 = .ok (.pop, 1) := by decide +kernel
theorem dX9_sumCosts_41 : decode cX9_sumCosts 41 = .ok (.iconst 0, 1) := by decide +kernel
theorem dX9_sumCosts_42 : decode cX9_sumCosts 42 = .ok (.istore_n 3, 1) := by decide +kernel
theorem dX9_sumCosts_43 : decode cX9_sumCosts 43 = .ok (.iload_n 3, 1) := by decide +kernel
theorem dX9_sumCosts_44 : decode cX9_sumCosts 44 = .ok (.aload_n 0, 1) := by decide +kernel
theorem dX9_sumCosts_45 : decode cX9_sumCosts 45 = .ok (.getfield 19, 3) := by decide +kernel
theorem dX9_sumCosts_48 : decode cX9_sumCosts 48 = .ok (.getfield 180, 3) := by decide +kernel
theorem dX9_sumCosts_51 : decode cX9_sumCosts 51 = .ok (.if_icmp .ge 55, 3) := by decide +kernel
theorem dX9_sumCosts_54 : decode cX9_sumCosts 54 = .ok (.iload_n 3, 1) := by decide +kernel
theorem dX9_sumCosts_55 : decode cX9_sumCosts 55 = .ok (.bipush 10, 2) := by decide +kernel
theorem dX9_sumCosts_57 : decode cX9_sumCosts 57 = .ok (.if_icmp .ge 49, 3) := by decide +kernel
theorem dX9_sumCosts_60 : decode cX9_sumCosts 60 = .ok (.aload_n 0, 1) := by decide +kernel
theorem dX9_sumCosts_61 : decode cX9_sumCosts 61 = .ok (.getfield 19, 3) := by decide +kernel
theorem dX9_sumCosts_64 : decode cX9_sumCosts 64 = .ok (.getfield 89, 3) := by decide +kernel
theorem dX9_sumCosts_67 : decode cX9_sumCosts 67 = .ok (.iload_n 3, 1) := by decide +kernel
theorem dX9_sumCosts_68 : decode cX9_sumCosts 68 = .ok (.aaload, 1) := by decide +kernel
theorem dX9_sumCosts_69 : decode cX9_sumCosts 69 = .ok (.invokevirtual 142, 3) := by decide +kernel
theorem dX9_sumCosts_72 : decode cX9_sumCosts 72 = .ok (.ifCond .ne 28, 3) := by decide +kernel
theorem dX9_sumCosts_75 : decode cX9_sumCosts 75 = .ok (.aload_n 0, 1) := by decide +kernel
theorem dX9_sumCosts_76 : decode cX9_sumCosts 76 = .ok (.getfield 52, 3) := by decide +kernel
theorem dX9_sumCosts_79 : decode cX9_sumCosts 79 = .ok (.iload_n 3, 1) := by decide +kernel
theorem dX9_sumCosts_80 : decode cX9_sumCosts 80 = .ok (.dup2, 1) := by decide +kernel
theorem dX9_sumCosts_81 : decode cX9_sumCosts 81 = .ok (.iaload, 1) := by decide +kernel
theorem dX9_sumCosts_82 : decode cX9_sumCosts 82 = .ok (.aload_n 0, 1) := by decide +kernel
theorem dX9_sumCosts_83 : decode cX9_sumCosts 83 = .ok (.getfield 19, 3) := by decide +kernel
theorem dX9_sumCosts_86 : decode cX9_sumCosts 86 = .ok (.aload_n 0, 1) := by decide +kernel
theorem dX9_sumCosts_87 : decode cX9_sumCosts 87 = .ok (.getfield 19, 3) := by decide +kernel
theorem dX9_sumCosts_90 : decode cX9_sumCosts 90 = .ok (.getfield 89, 3) := by decide +kernel
theorem dX9_sumCosts_93 : decode cX9_sumCosts 93 = .ok (.iload_n 3, 1) := by decide +kernel
theorem dX9_sumCosts_94 : decode cX9_sumCosts 94 = .ok (.aaload, 1) := by decide +kernel
theorem dX9_sumCosts_95 : decode cX9_sumCosts 95 = .ok (.invokevirtual 117, 3) := by decide +kernel
theorem dX9_sumCosts_98 : decode cX9_sumCosts 98 = .ok (.iadd, 1) := by decide +kernel
theorem dX9_sumCosts_99 : decode cX9_sumCosts 99 = .ok (.iastore, 1) := by decide +kernel
theorem dX9_sumCosts_100 : decode cX9_sumCosts 100 = .ok (.iinc 3 1, 3) := by decide +kernel
theorem dX9_sumCosts_103 : decode cX9_sumCosts 103 = .ok (.goto (-60), 3) := by decide +kernel
theorem dX9_sumCosts_106 : decode cX9_sumCosts 106 = .ok (.aload_n 0, 1) := by decide +kernel
theorem dX9_sumCosts_107 : decode cX9_sumCosts 107 = .ok (.getfield 19, 3) := by decide +kernel
theorem dX9_sumCosts_110 : decode cX9_sumCosts 110 = .ok (.dup, 1) := by decide +kernel
theorem dX9_sumCosts_111 : decode cX9_sumCosts 111 = .ok (.getfield 189, 3) := by decide +kernel
theorem dX9_sumCosts_114 : decode cX9_sumCosts 114 = .ok (.iconst 1, 1) := by decide +kernel
theorem dX9_sumCosts_115 : decode cX9_sumCosts 115 = .ok (.iadd, 1) := by decide +kernel
theorem dX9_sumCosts_116 : decode cX9_sumCosts 116 = .ok (.putfield 189, 3) := by decide +kernel
theorem dX9_sumCosts_119 : decode cX9_sumCosts 119 = .ok (.iinc 2 1, 3) := by decide +kernel
theorem dX9_sumCosts_122 : decode cX9_sumCosts 122 = .ok (.goto (-101), 3) := by decide +kernel
theorem dX9_sumCosts_125 : decode cX9_sumCosts 125 = .ok (.return_, 1) := by decide +kernel
abbrev x_X9_sumCosts (E : mh_E) (d mc ms : Nat) (Post : Option Value → mh_H → Prop) : mh_X := (E, yX9_sumCosts, cX9_sumCosts, 4, none, d, mc, ms, Post)
def q_X9_sumCosts_106 (X : mh_X) : mh_PR := s_al 0 (s_gr 9 2 (s_dup (s_gi 0 8 (s_push (.int (1)) (s_bin (fun x y => x + y) (s_pi 0 8 (s_inc 2 (1) (mh_G X 21))))))))
theorem b_X9_sumCosts_106 {E : mh_E} {d mc ms : Nat} {Post : Option Value → mh_H → Prop} : mh_S (x_X9_sumCosts E d mc ms Post) 106 (q_X9_sumCosts_106 (x_X9_sumCosts E d mc ms Post)) := sn_aload_n dX9_sumCosts_106 rfl (sn_getr clX9 (by decide) w_336 dX9_sumCosts_107 (sn_dup dX9_sumCosts_110 (sn_geti clX0 (by decide) w_194 dX9_sumCosts_111 (sn_iconst dX9_sumCosts_114 (by decide) (sn_iadd dX9_sumCosts_115 (sn_puti clX0 (by decide) w_194 rfl rfl dX9_sumCosts_116 (sn_iinc dX9_sumCosts_119 (by decide) (Nat.le_of_ble_eq_true rfl) (sn_goto (tgt := 21) dX9_sumCosts_122 (by decide) (mh_S.G)))))))))
def q_X9_sumCosts_100 (X : mh_X) : mh_PR := s_inc 3 (1) (mh_G X 43)
theorem b_X9_sumCosts_100 {E : mh_E} {d mc ms : Nat} {Post : Option Value → mh_H → Prop} : mh_S (x_X9_sumCosts E d mc ms Post) 100 (q_X9_sumCosts_100 (x_X9_sumCosts E d mc ms Post)) := sn_iinc dX9_sumCosts_100 (by decide) (Nat.le_of_ble_eq_true rfl) (sn_goto (tgt := 43) dX9_sumCosts_103 (by decide) (mh_S.G))
def q_X9_sumCosts_43 (X : mh_X) : mh_PR := s_il 3 (s_al 0 (s_gr 9 2 (s_gi 0 3 (s_if2 (fun x y => y ≤ x) (q_X9_sumCosts_106 X) (s_il 3 (s_push (.int (10)) (s_if2 (fun x y => y ≤ x) (q_X9_sumCosts_106 X) (s_al 0 (s_gr 9 2 (s_gr 0 1 (s_il 3 (s_aald 6 (s_cv X yX6_isFulfilled 6 0 (s_if1 (fun x => ¬ x = 0) (q_X9_sumCosts_100 X) (s_al 0 (s_gr 9 8 (s_il 3 (s_dup2 (s_ald 0 (s_al 0 (s_gr 9 2 (s_al 0 (s_gr 9 2 (s_gr 0 1 (s_il 3 (s_aald 6 (s_cv X yX0_keeps 0 1 (s_bin (fun x y => x + y) (s_ast 0 (fun x => x) (q_X9_sumCosts_100 X))))))))))))))))))))))))))))))
theorem b_X9_sumCosts_43 {E : mh_E} {d mc ms : Nat} {Post : Option Value → mh_H → Prop} : mh_S (x_X9_sumCosts E d mc ms Post) 43 (q_X9_sumCosts_43 (x_X9_sumCosts E d mc ms Post)) := sn_iload_n dX9_sumCosts_43 rfl (sn_aload_n dX9_sumCosts_44 rfl (sn_getr clX9 (by decide) w_336 dX9_sumCosts_45 (sn_geti clX0 (by decide) w_184 dX9_sumCosts_48 (sn_icmp_ge (tgt := 106) dX9_sumCosts_51 (by decide) (b_X9_sumCosts_106) (sn_iload_n dX9_sumCosts_54 rfl (sn_bipush dX9_sumCosts_55 (by decide) (sn_icmp_ge (tgt := 106) dX9_sumCosts_57 (by decide) (b_X9_sumCosts_106) (sn_aload_n dX9_sumCosts_60 rfl (sn_getr clX9 (by decide) w_336 dX9_sumCosts_61 (sn_getr clX0 (by decide) w_178 dX9_sumCosts_64 (sn_iload_n dX9_sumCosts_67 rfl (sn_aaload (by decide) rfl dX9_sumCosts_68 (sn_cv w_506 w_507 w_508 w_61 rfl nm_X6_isFulfilled dX9_sumCosts_69 (sn_if_ne (tgt := 100) dX9_sumCosts_72 (by decide) (b_X9_sumCosts_100) (sn_aload_n dX9_sumCosts_75 rfl (sn_getr clX9 (by decide) w_342 dX9_sumCosts_76 (sn_iload_n dX9_sumCosts_79 rfl (sn_dup2 dX9_sumCosts_80 (sn_iaload dX9_sumCosts_81 (sn_aload_n dX9_sumCosts_82 rfl (sn_getr clX9 (by decide) w_336 dX9_sumCosts_83 (sn_aload_n dX9_sumCosts_86 rfl (sn_getr clX9 (by decide) w_336 dX9_sumCosts_87 (sn_getr clX0 (by decide) w_178 dX9_sumCosts_90 (sn_iload_n dX9_sumCosts_93 rfl (sn_aaload (by decide) rfl dX9_sumCosts_94 (sn_cv w_420 w_421 w_422 w_57 rfl nm_X0_keeps dX9_sumCosts_95 (sn_iadd dX9_sumCosts_98 (sn_iastore dX9_sumCosts_99 b_X9_sumCosts_100)))))))))))))))))))))))))))))
def q_X9_sumCosts_21 (X : mh_X) : mh_PR := s_il 2 (s_il 1 (s_if2 (fun x y => y ≤ x) (s_vret X) (s_al 0 (s_gr 9 2 (s_cv X yX0_stir 0 0 (s_al 0 (s_gr 9 2 (s_cv X yX0_fulfil 0 0 (s_pop (s_push (.int (0)) (s_is 3 (mh_G X 43))))))))))))
theorem b_X9_sumCosts_21 {E : mh_E} {d mc ms : Nat} {Post : Option Value → mh_H → Prop} : mh_S (x_X9_sumCosts E d mc ms Post) 21 (q_X9_sumCosts_21 (x_X9_sumCosts E d mc ms Post)) := sn_iload_n dX9_sumCosts_21 rfl (sn_iload_n dX9_sumCosts_22 rfl (sn_icmp_ge (tgt := 125) dX9_sumCosts_23 (by decide) (sn_vret rfl dX9_sumCosts_125) (sn_aload_n dX9_sumCosts_26 rfl (sn_getr clX9 (by decide) w_336 dX9_sumCosts_27 (sn_cv w_695 w_575 w_576 w_57 rfl nm_X0_stir dX9_sumCosts_30 (sn_aload_n dX9_sumCosts_33 rfl (sn_getr clX9 (by decide) w_336 dX9_sumCosts_34 (sn_cv w_713 w_582 w_583 w_57 rfl nm_X0_fulfil dX9_sumCosts_37 (sn_pop dX9_sumCosts_40 (sn_iconst dX9_sumCosts_41 (by decide) (sn_istore_n dX9_sumCosts_42 rfl (Nat.le_of_ble_eq_true rfl) mh_S.G)))))))))))
def q_X9_sumCosts_0 (X : mh_X) : mh_PR := s_al 0 (s_gr 9 8 (s_push (.int (0)) (s_cs X yJ7_fill_53178 2 (s_al 0 (s_gr 9 2 (s_al 0 (s_gr 9 0 (s_cv X yX0_become 0 1 (s_push (.int (0)) (s_is 2 (mh_G X 21)))))))))))
theorem b_X9_sumCosts_0 {E : mh_E} {d mc ms : Nat} {Post : Option Value → mh_H → Prop} : mh_S (x_X9_sumCosts E d mc ms Post) 0 (q_X9_sumCosts_0 (x_X9_sumCosts E d mc ms Post)) := sn_aload_n dX9_sumCosts_0 rfl (sn_getr clX9 (by decide) w_342 dX9_sumCosts_1 (sn_iconst dX9_sumCosts_4 (by decide) (sn_cs w_712 w_122 w_60 nm_J7_fill_53178 dX9_sumCosts_5 (sn_aload_n dX9_sumCosts_8 rfl (sn_getr clX9 (by decide) w_336 dX9_sumCosts_9 (sn_aload_n dX9_sumCosts_12 rfl (sn_getr clX9 (by decide) w_334 dX9_sumCosts_13 (sn_cv w_658 w_659 w_660 w_57 rfl nm_X0_become dX9_sumCosts_16 (sn_iconst dX9_sumCosts_19 (by decide) (sn_istore_n dX9_sumCosts_20 rfl (Nat.le_of_ble_eq_true rfl) mh_S.G))))))))))
theorem m_X9_sumCosts {E : mh_E} {d mc ms : Nat} {args : List Value} {h : mh_H} {Post : Option Value → mh_H → Prop} (lv : List (Option Value)) (hl : lv_args 0 args = mh_al 0 lv) (hs : (lg_sl args).length ≤ 4) (hG : q_X9_sumCosts_0 (x_X9_sumCosts E d mc ms Post) lv [] h 0 0) : mh_M E d mc ms yX9_sumCosts args h Post := mh_M.of w_711 (by decide) (by decide) hl hs (b_X9_sumCosts_0 _ _ _ _ _ hG)
theorem dX9_sumDifferences_0 : decode cX9_sumDifferences 0 = .ok (.aload_n 0, 1) := by decide +kernel
theorem dX9_sumDifferences_1 : decode cX9_sumDifferences 1 = .ok (.getfield 52, 3) := by decide +kernel
theorem dX9_sumDifferences_4 : decode cX9_sumDifferences 4 = .ok (.iconst 0, 1) := by decide +kernel
theorem dX9_sumDifferences_5 : decode cX9_sumDifferences 5 = .ok (.invokestatic 361, 3) := by decide +kernel
theorem dX9_sumDifferences_8 : decode cX9_sumDifferences 8 = .ok (.aload_n 0, 1) := by decide +kernel
theorem dX9_sumDifferences_9 : decode cX9_sumDifferences 9 = .ok (.getfield 19, 3) := by decide +kernel
theorem dX9_sumDifferences_12 : decode cX9_sumDifferences 12 = .ok (.aload_n 0, 1) := by decide +kernel
theorem dX9_sumDifferences_13 : decode cX9_sumDifferences 13 = .ok (.getfield 12, 3) := by decide +kernel
theorem dX9_sumDifferences_16 : decode cX9_sumDifferences 16 = .ok (.invokevirtual 226, 3) := by decide +kernel
theorem dX9_sumDifferences_19 : decode cX9_sumDifferences 19 = .ok (.iconst 0, 1) := by decide +kernel
theorem dX9_sumDifferences_20 : decode cX9_sumDifferences 20 = .ok (.istore_n 2, 1) := by decide +kernel
theorem dX9_sumDifferences_21 : decode cX9_sumDifferences 21 = .ok (.iload_n 2, 1) := by decide +kernel
theorem dX9_sumDifferences_22 : decode cX9_sumDifferences 22 = .ok (.aload_n 1, 1) := by decide +kernel
theorem dX9_sumDifferences_23 : decode cX9_sumDifferences 23 = .ok (.getfield 322, 3) := by decide +kernel
theorem dX9_sumDifferences_26 : decode cX9_sumDifferences 26 = .ok (.if_icmp .ge 71, 3) := by decide +kernel
theorem dX9_sumDifferences_29 : decode cX9_sumDifferences 29 = .ok (.aload_n 1, 1) := by decide +kernel
theorem dX9_sumDifferences_30 : decode cX9_sumDifferences 30 = .ok (.iload_n 2, 1) := by decide +kernel
theorem dX9_sumDifferences_31 : decode cX9_sumDifferences 31 = .ok (.invokevirtual 316, 3) := by decide +kernel
theorem dX9_sumDifferences_34 : decode cX9_sumDifferences 34 = .ok (.istore_n 3, 1) := by decide +kernel
theorem dX9_sumDifferences_35 : decode cX9_sumDifferences 35 = .ok (.iconst 0, 1) := by decide +kernel
theorem dX9_sumDifferences_36 : decode cX9_sumDifferences 36 = .ok (.istore 4, 2) := by decide +kernel
theorem dX9_sumDifferences_38 : decode cX9_sumDifferences 38 = .ok (.iload 4, 2) := by decide +kernel
theorem dX9_sumDifferences_40 : decode cX9_sumDifferences 40 = .ok (.bipush 6, 2) := by decide +kernel
theorem dX9_sumDifferences_42 : decode cX9_sumDifferences 42 = .ok (.if_icmp .ge 42, 3) := by decide +kernel
theorem dX9_sumDifferences_45 : decode cX9_sumDifferences 45 = .ok (.iload_n 3, 1) := by decide +kernel
theorem dX9_sumDifferences_46 : decode cX9_sumDifferences 46 = .ok (.ldc 147, 2) := by decide +kernel
theorem dX9_sumDifferences_48 : decode cX9_sumDifferences 48 = .ok (.if_icmp .eq 36, 3) := by decide +kernel
theorem dX9_sumDifferences_51 : decode cX9_sumDifferences 51 = .ok (.aload_n 0, 1) := by decide +kernel
theorem dX9_sumDifferences_52 : decode cX9_sumDifferences 52 = .ok (.getfield 52, 3) := by decide +kernel
theorem dX9_sumDifferences_55 : decode cX9_sumDifferences 55 = .ok (.iload 4, 2) := by decide +kernel
theorem dX9_sumDifferences_57 : decode cX9_sumDifferences 57 = .ok (.dup2, 1) := by decide +kernel
theorem dX9_sumDifferences_58 : decode cX9_sumDifferences 58 = .ok (.iaload, 1) := by decide +kernel
theorem dX9_sumDifferences_59 : decode cX9_sumDifferences 59 = .ok (.aload_n 0, 1) := by decide +kernel
theorem dX9_sumDifferences_60 : decode cX9_sumDifferences 60 = .ok (.getfield 19, 3) := by decide +kernel
theorem dX9_sumDifferences_63 : decode cX9_sumDifferences 63 = .ok (.getfield 148, 3) := by decide +kernel
theorem dX9_sumDifferences_66 : decode cX9_sumDifferences 66 = .ok (.iload 4, 2) := by decide +kernel
theorem dX9_sumDifferences_68 : decode cX9_sumDifferences 68 = .ok (.invokevirtual 157, 3) := by decide +kernel
theorem dX9_sumDifferences_71 : decode cX9_sumDifferences 71 = .ok (.iload_n 3, 1) := by decide +kernel
theorem dX9_sumDifferences_72 : decode cX9_sumDifferences 72 = .ok (.isub, 1) := by decide +kernel
theorem dX9_sumDifferences_73 : decode cX9_sumDifferences 73 = .ok (.invokestatic 370, 3) := by decide +kernel
theorem dX9_sumDifferences_76 : decode cX9_sumDifferences 76 = .ok (.iadd, 1) := by decide +kernel
theorem dX9_sumDifferences_77 : decode cX9_sumDifferences 77 = .ok (.iastore, 1) := by decide +kernel
theorem dX9_sumDifferences_78 : decode cX9_sumDifferences 78 = .ok (.iinc 4 1, 3) := by decide +kernel
theorem dX9_sumDifferences_81 : decode cX9_sumDifferences 81 = .ok (.goto (-43), 3) := by decide +kernel
theorem dX9_sumDifferences_84 : decode cX9_sumDifferences 84 = .ok (.aload_n 0, 1) := by decide +kernel
theorem dX9_sumDifferences_85 : decode cX9_sumDifferences 85 = .ok (.getfield 19, 3) := by decide +kernel
theorem dX9_sumDifferences_88 : decode cX9_sumDifferences 88 = .ok (.invokevirtual 358, 3) := by decide +kernel
theorem dX9_sumDifferences_91 : decode cX9_sumDifferences 91 = .ok (.iinc 2 1, 3) := by decide +kernel
theorem dX9_sumDifferences_94 : decode cX9_sumDifferences 94 = .ok (.goto (-73), 3) := by decide +kernel
theorem dX9_sumDifferences_97 : decode cX9_sumDifferences 97 = .ok (.return_, 1) := by decide +kernel
abbrev x_X9_sumDifferences (E : mh_E) (d mc ms : Nat) (Post : Option Value → mh_H → Prop) : mh_X := (E, yX9_sumDifferences, cX9_sumDifferences, 5, none, d, mc, ms, Post)
def q_X9_sumDifferences_84 (X : mh_X) : mh_PR := s_al 0 (s_gr 9 2 (s_cv X yX0_stir 0 0 (s_inc 2 (1) (mh_G X 21))))
theorem b_X9_sumDifferences_84 {E : mh_E} {d mc ms : Nat} {Post : Option Value → mh_H → Prop} : mh_S (x_X9_sumDifferences E d mc ms Post) 84 (q_X9_sumDifferences_84 (x_X9_sumDifferences E d mc ms Post)) := sn_aload_n dX9_sumDifferences_84 rfl (sn_getr clX9 (by decide) w_336 dX9_sumDifferences_85 (sn_cv w_695 w_575 w_576 w_57 rfl nm_X0_stir dX9_sumDifferences_88 (sn_iinc dX9_sumDifferences_91 (by decide) (Nat.le_of_ble_eq_true rfl) (sn_goto (tgt := 21) dX9_sumDifferences_94 (by decide) (mh_S.G)))))
def q_X9_sumDifferences_38 (X : mh_X) : mh_PR := s_il 4 (s_push (.int (6)) (s_if2 (fun x y => y ≤ x) (q_X9_sumDifferences_84 X) (s_il 3 (s_push (.int (-1000000005)) (s_if2 (fun x y => x = y) (q_X9_sumDifferences_84 X) (s_al 0 (s_gr 9 8 (s_il 4 (s_dup2 (s_ald 0 (s_al 0 (s_gr 9 2 (s_gr 0 0 (s_il 4 (s_cv X yX3_rankOf 3 1 (s_il 3 (s_bin (fun x y => x - y) (s_ma X (s_bin (fun x y => x + y) (s_ast 0 (fun x => x) (s_inc 4 (1) (mh_G X 38))))))))))))))))))))))
theorem b_X9_sumDifferences_38 {E : mh_E} {d mc ms : Nat} {Post : Option Value → mh_H → Prop} : mh_S (x_X9_sumDifferences E d mc ms Post) 38 (q_X9_sumDifferences_38 (x_X9_sumDifferences E d mc ms Post)) := sn_iload dX9_sumDifferences_38 (sn_bipush dX9_sumDifferences_40 (by decide) (sn_icmp_ge (tgt := 84) dX9_sumDifferences_42 (by decide) (b_X9_sumDifferences_84) (sn_iload_n dX9_sumDifferences_45 rfl (sn_ldc dX9_sumDifferences_46 w_511 (sn_icmp_eq (tgt := 84) dX9_sumDifferences_48 (by decide) (b_X9_sumDifferences_84) (sn_aload_n dX9_sumDifferences_51 rfl (sn_getr clX9 (by decide) w_342 dX9_sumDifferences_52 (sn_iload dX9_sumDifferences_55 (sn_dup2 dX9_sumDifferences_57 (sn_iaload dX9_sumDifferences_58 (sn_aload_n dX9_sumDifferences_59 rfl (sn_getr clX9 (by decide) w_336 dX9_sumDifferences_60 (sn_getr clX0 (by decide) w_176 dX9_sumDifferences_63 (sn_iload dX9_sumDifferences_66 (sn_cv w_521 w_522 w_523 w_58 rfl nm_X3_rankOf dX9_sumDifferences_68 (sn_iload_n dX9_sumDifferences_71 rfl (sn_isub dX9_sumDifferences_72 (sn_mabs w_747 w_748 w_67 w_math_abs dX9_sumDifferences_73 (sn_iadd dX9_sumDifferences_76 (sn_iastore dX9_sumDifferences_77 (sn_iinc dX9_sumDifferences_78 (by decide) (Nat.le_of_ble_eq_true rfl) (sn_goto (tgt := 38) dX9_sumDifferences_81 (by decide) (mh_S.G)))))))))))))))))))))))
def q_X9_sumDifferences_21 (X : mh_X) : mh_PR := s_il 2 (s_al 1 (s_gi 4 2 (s_if2 (fun x y => y ≤ x) (s_vret X) (s_al 1 (s_il 2 (s_cv X yX4_valueAt 4 1 (s_is 3 (s_push (.int (0)) (s_is 4 (mh_G X 38))))))))))
theorem b_X9_sumDifferences_21 {E : mh_E} {d mc ms : Nat} {Post : Option Value → mh_H → Prop} : mh_S (x_X9_sumDifferences E d mc ms Post) 21 (q_X9_sumDifferences_21 (x_X9_sumDifferences E d mc ms Post)) := sn_iload_n dX9_sumDifferences_21 rfl (sn_aload_n dX9_sumDifferences_22 rfl (sn_geti clX4 (by decide) w_300 dX9_sumDifferences_23 (sn_icmp_ge (tgt := 97) dX9_sumDifferences_26 (by decide) (sn_vret rfl dX9_sumDifferences_97) (sn_aload_n dX9_sumDifferences_29 rfl (sn_iload_n dX9_sumDifferences_30 rfl (sn_cv w_738 w_739 w_740 w_64 rfl nm_X4_valueAt dX9_sumDifferences_31 (sn_istore_n dX9_sumDifferences_34 rfl (Nat.le_of_ble_eq_true rfl) (sn_iconst dX9_sumDifferences_35 (by decide) (sn_istore dX9_sumDifferences_36 (Nat.le_of_ble_eq_true rfl) mh_S.G)))))))))
def q_X9_sumDifferences_0 (X : mh_X) : mh_PR := s_al 0 (s_gr 9 8 (s_push (.int (0)) (s_cs X yJ7_fill_53178 2 (s_al 0 (s_gr 9 2 (s_al 0 (s_gr 9 0 (s_cv X yX0_become 0 1 (s_push (.int (0)) (s_is 2 (mh_G X 21)))))))))))
theorem b_X9_sumDifferences_0 {E : mh_E} {d mc ms : Nat} {Post : Option Value → mh_H → Prop} : mh_S (x_X9_sumDifferences E d mc ms Post) 0 (q_X9_sumDifferences_0 (x_X9_sumDifferences E d mc ms Post)) := sn_aload_n dX9_sumDifferences_0 rfl (sn_getr clX9 (by decide) w_342 dX9_sumDifferences_1 (sn_iconst dX9_sumDifferences_4 (by decide) (sn_cs w_712 w_122 w_60 nm_J7_fill_53178 dX9_sumDifferences_5 (sn_aload_n dX9_sumDifferences_8 rfl (sn_getr clX9 (by decide) w_336 dX9_sumDifferences_9 (sn_aload_n dX9_sumDifferences_12 rfl (sn_getr clX9 (by decide) w_334 dX9_sumDifferences_13 (sn_cv w_658 w_659 w_660 w_57 rfl nm_X0_become dX9_sumDifferences_16 (sn_iconst dX9_sumDifferences_19 (by decide) (sn_istore_n dX9_sumDifferences_20 rfl (Nat.le_of_ble_eq_true rfl) mh_S.G))))))))))
theorem m_X9_sumDifferences {E : mh_E} {d mc ms : Nat} {args : List Value} {h : mh_H} {Post : Option Value → mh_H → Prop} (lv : List (Option Value)) (hl : lv_args 0 args = mh_al 0 lv) (hs : (lg_sl args).length ≤ 5) (hG : q_X9_sumDifferences_0 (x_X9_sumDifferences E d mc ms Post) lv [] h 0 0) : mh_M E d mc ms yX9_sumDifferences args h Post := mh_M.of w_737 (by decide) (by decide) hl hs (b_X9_sumDifferences_0 _ _ _ _ _ hG)
