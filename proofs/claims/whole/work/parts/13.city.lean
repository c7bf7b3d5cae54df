theorem dX0_init_0 : decode cX0_init 0 = .ok (.aload_n 0, 1) := by decide +kernel
theorem dX0_init_1 : decode cX0_init 1 = .ok (.invokespecial 3, 3) := by decide +kernel
theorem dX0_init_4 : decode cX0_init 4 = .ok (.aload_n 0, 1) := by decide +kernel
theorem dX0_init_5 : decode cX0_init 5 = .ok (.new 9, 3) := by decide +kernel
theorem dX0_init_8 : decode cX0_init 8 = .ok (.dup, 1) := by decide +kernel
theorem dX0_init_9 : decode cX0_init 9 = .ok (.invokespecial 11, 3) := by decide +kernel
theorem dX0_init_12 : decode cX0_init 12 = .ok (.putfield 12, 3) := by decide +kernel
theorem dX0_init_15 : decode cX0_init 15 = .ok (.aload_n 0, 1) := by decide +kernel
theorem dX0_init_16 : decode cX0_init 16 = .ok (.bipush 10, 2) := by decide +kernel
theorem dX0_init_18 : decode cX0_init 18 = .ok (.anewarray 18, 3) := by decide +kernel
theorem dX0_init_21 : decode cX0_init 21 = .ok (.putfield 20, 3) := by decide +kernel
theorem dX0_init_24 : decode cX0_init 24 = .ok (.aload_n 0, 1) := by decide +kernel
theorem dX0_init_25 : decode cX0_init 25 = .ok (.new 24, 3) := by decide +kernel
theorem dX0_init_28 : decode cX0_init 28 = .ok (.dup, 1) := by decide +kernel
theorem dX0_init_29 : decode cX0_init 29 = .ok (.invokespecial 26, 3) := by decide +kernel
theorem dX0_init_32 : decode cX0_init 32 = .ok (.putfield 27, 3) := by decide +kernel
theorem dX0_init_35 : decode cX0_init 35 = .ok (.aload_n 0, 1) := by decide +kernel
theorem dX0_init_36 : decode cX0_init 36 = .ok (.iconst 0, 1) := by decide +kernel
theorem dX0_init_37 : decode cX0_init 37 = .ok (.putfield 31, 3) := by decide +kernel
theorem dX0_init_40 : decode cX0_init 40 = .ok (.aload_n 0, 1) := by decide +kernel
theorem dX0_init_41 : decode cX0_init 41 = .ok (.bipush 60, 2) := by decide +kernel
theorem dX0_init_43 : decode cX0_init 43 = .ok (.putfield 35, 3) := by decide +kernel
theorem dX0_init_46 : decode cX0_init 46 = .ok (.aload_n 0, 1) := by decide +kernel
theorem dX0_init_47 : decode cX0_init 47 = .ok (.bipush 40, 2) := by decide +kernel
theorem dX0_init_49 : decode cX0_init 49 = .ok (.putfield 38, 3) := by decide +kernel
theorem dX0_init_52 : decode cX0_init 52 = .ok (.aload_n 0, 1) := by decide +kernel
theorem dX0_init_53 : decode cX0_init 53 = .ok (.iconst 0, 1) := by decide +kernel
theorem dX0_init_54 : decode cX0_init 54 = .ok (.putfield 41, 3) := by decide +kernel
theorem dX0_init_57 : decode cX0_init 57 = .ok (.aload_n 0, 1) := by decide +kernel
theorem dX0_init_58 : decode cX0_init 58 = .ok (.iconst 0, 1) := by decide +kernel
theorem dX0_init_59 : decode cX0_init 59 = .ok (.putfield 44, 3) := by decide +kernel
theorem dX0_init_62 : decode cX0_init 62 = .ok (.aload_n 0, 1) := by decide +kernel
theorem dX0_init_63 : decode cX0_init 63 = .ok (.iconst 0, 1) := by decide +kernel
theorem dX0_init_64 : decode cX0_init 64 = .ok (.putfield 47, 3) := by decide +kernel
theorem dX0_init_67 : decode cX0_init 67 = .ok (.aload_n 0, 1) := by decide +kernel
theorem dX0_init_68 : decode cX0_init 68 = .ok (.iconst 1, 1) := by decide +kernel
theorem dX0_init_69 : decode cX0_init 69 = .ok (.putfield 50, 3) := by decide +kernel
theorem dX0_init_72 : decode cX0_init 72 = .ok (.iconst 0, 1) := by decide +kernel
theorem dX0_init_73 : decode cX0_init 73 = .ok (.istore_n 1, 1) := by decide +kernel
theorem dX0_init_74 : decode cX0_init 74 = .ok (.iload_n 1, 1) := by decide +kernel
theorem dX0_init_75 : decode cX0_init 75 = .ok (.bipush 10, 2) := by decide +kernel
theorem dX0_init_77 : decode cX0_init 77 = .ok (.if_icmp .ge 22, 3) := by decide +kernel
theorem dX0_init_80 : decode cX0_init 80 = .ok (.aload_n 0, 1) := by decide +kernel
theorem dX0_init_81 : decode cX0_init 81 = .ok (.getfield 20, 3) := by decide +kernel
theorem dX0_init_84 : decode cX0_init 84 = .ok (.iload_n 1, 1) := by decide +kernel
theorem dX0_init_85 : decode cX0_init 85 = .ok (.new 18, 3) := by decide +kernel
theorem dX0_init_88 : decode cX0_init 88 = .ok (.dup, 1) := by decide +kernel
theorem dX0_init_89 : decode cX0_init 89 = .ok (.invokespecial 53, 3) := by decide +kernel
theorem dX0_init_92 : decode cX0_init 92 = .ok (.aastore, 1) := by decide +kernel
theorem dX0_init_93 : decode cX0_init 93 = .ok (.iinc 1 1, 3) := by decide +kernel
theorem dX0_init_96 : decode cX0_init 96 = .ok (.goto (-22), 3) := by decide +kernel
theorem dX0_init_99 : decode cX0_init 99 = .ok (.return_, 1) := by decide +kernel
abbrev x_X0_init (E : mh_E) (d mc ms : Nat) (Post : Option Value → mh_H → Prop) : mh_X := (E, yX0_init, cX0_init, 2, none, d, mc, ms, Post)
def q_X0_init_74 (X : mh_X) : mh_PR := s_il 1 (s_push (.int (10)) (s_if2 (fun x y => y ≤ x) (s_vret X) (s_al 0 (s_gr 0 1 (s_il 1 (s_new X 6 6 [.int 0, .int 0, .int 0, .int 0, .int 0, .int 0] (s_dup (s_ci X yX6_init 0 (s_aast 6 6 (s_inc 1 (1) (mh_G X 74)))))))))))
theorem b_X0_init_74 {E : mh_E} {d mc ms : Nat} {Post : Option Value → mh_H → Prop} : mh_S (x_X0_init E d mc ms Post) 74 (q_X0_init_74 (x_X0_init E d mc ms Post)) := sn_iload_n dX0_init_74 rfl (sn_bipush dX0_init_75 (by decide) (sn_icmp_ge (tgt := 99) dX0_init_77 (by decide) (sn_vret rfl dX0_init_99) (sn_aload_n dX0_init_80 rfl (sn_getr clX0 (by decide) w_177 dX0_init_81 (sn_iload_n dX0_init_84 rfl (sn_new clX6 w_110 w_135 w_61 dfX6 dX0_init_85 (sn_dup dX0_init_88 (sn_ciN w_136 w_137 w_61 rfl nm_X6_init dX0_init_89 (sn_aastore clX6 (by decide) rfl dX0_init_92 (sn_iinc dX0_init_93 (by decide) (Nat.le_of_ble_eq_true rfl) (sn_goto (tgt := 74) dX0_init_96 (by decide) (mh_S.G))))))))))))
def q_X0_init_0 (X : mh_X) : mh_PR := s_al 0 (s_oi X (s_al 0 (s_new X 3 4 [.null, .null, .null, .null] (s_dup (s_ci X yX3_init 0 (s_pr 0 0 (s_al 0 (s_push (.int (10)) (s_newq X 6 (s_pr 0 1 (s_al 0 (s_new X 2 3 [.null, .null, .int 0] (s_dup (s_ci X yX2_init 0 (s_pr 0 2 (s_al 0 (s_push (.int (0)) (s_pi 0 3 (s_al 0 (s_push (.int (60)) (s_pi 0 4 (s_al 0 (s_push (.int (40)) (s_pi 0 5 (s_al 0 (s_push (.int (0)) (s_pi 0 6 (s_al 0 (s_push (.int (0)) (s_pi 0 7 (s_al 0 (s_push (.int (0)) (s_pi 0 8 (s_al 0 (s_push (.int (1)) (s_pi 0 9 (s_push (.int (0)) (s_is 1 (mh_G X 74)))))))))))))))))))))))))))))))))))))))
theorem b_X0_init_0 {E : mh_E} {d mc ms : Nat} {Post : Option Value → mh_H → Prop} : mh_S (x_X0_init E d mc ms Post) 0 (q_X0_init_0 (x_X0_init E d mc ms Post)) := sn_aload_n dX0_init_0 rfl (sn_oi w_89 w_82 w_oi dX0_init_1 (sn_aload_n dX0_init_4 rfl (sn_new clX3 w_90 w_91 w_58 dfX3 dX0_init_5 (sn_dup dX0_init_8 (sn_ci w_92 w_93 w_58 rfl nm_X3_init dX0_init_9 (sn_putrF clX0 (by decide) w_174 rfl rfl rfl (Or.inl ⟨_, rfl⟩) dX0_init_12 (sn_aload_n dX0_init_15 rfl (sn_bipush dX0_init_16 (by decide) (sn_newq (by decide) rfl w_111 w_110 dX0_init_18 (sn_putrF clX0 (by decide) w_177 rfl rfl rfl (Or.inr ⟨_, rfl⟩) dX0_init_21 (sn_aload_n dX0_init_24 rfl (sn_new clX2 w_112 w_113 w_59 dfX2 dX0_init_25 (sn_dup dX0_init_28 (sn_ci w_114 w_115 w_59 rfl nm_X2_init dX0_init_29 (sn_putrF clX0 (by decide) w_180 rfl rfl rfl (Or.inl ⟨_, rfl⟩) dX0_init_32 (sn_aload_n dX0_init_35 rfl (sn_iconst dX0_init_36 (by decide) (sn_puti clX0 (by decide) w_182 rfl rfl dX0_init_37 (sn_aload_n dX0_init_40 rfl (sn_bipush dX0_init_41 (by decide) (sn_puti clX0 (by decide) w_185 rfl rfl dX0_init_43 (sn_aload_n dX0_init_46 rfl (sn_bipush dX0_init_47 (by decide) (sn_puti clX0 (by decide) w_187 rfl rfl dX0_init_49 (sn_aload_n dX0_init_52 rfl (sn_iconst dX0_init_53 (by decide) (sn_puti clX0 (by decide) w_189 rfl rfl dX0_init_54 (sn_aload_n dX0_init_57 rfl (sn_iconst dX0_init_58 (by decide) (sn_puti clX0 (by decide) w_191 rfl rfl dX0_init_59 (sn_aload_n dX0_init_62 rfl (sn_iconst dX0_init_63 (by decide) (sn_puti clX0 (by decide) w_193 rfl rfl dX0_init_64 (sn_aload_n dX0_init_67 rfl (sn_iconst dX0_init_68 (by decide) (sn_puti clX0 (by decide) w_195 rfl rfl dX0_init_69 (sn_iconst dX0_init_72 (by decide) (sn_istore_n dX0_init_73 rfl (Nat.le_of_ble_eq_true rfl) mh_S.G))))))))))))))))))))))))))))))))))))))
theorem m_X0_init {E : mh_E} {d mc ms : Nat} {args : List Value} {h : mh_H} {Post : Option Value → mh_H → Prop} (lv : List (Option Value)) (hl : lv_args 0 args = mh_al 0 lv) (hs : (lg_sl args).length ≤ 2) (hG : q_X0_init_0 (x_X0_init E d mc ms Post) lv [] h 0 0) : mh_M E d mc ms yX0_init args h Post := mh_M.of w_88 (by decide) (by decide) hl hs (b_X0_init_0 _ _ _ _ _ hG)
theorem dX0_become_0 : decode cX0_become 0 = .ok (.aload_n 0, 1) := by decide +kernel
theorem dX0_become_1 : decode cX0_become 1 = .ok (.getfield 12, 3) := by decide +kernel
theorem dX0_become_4 : decode cX0_become 4 = .ok (.aload_n 1, 1) := by decide +kernel
theorem dX0_become_5 : decode cX0_become 5 = .ok (.getfield 12, 3) := by decide +kernel
theorem dX0_become_8 : decode cX0_become 8 = .ok (.invokevirtual 54, 3) := by decide +kernel
theorem dX0_become_11 : decode cX0_become 11 = .ok (.iconst 0, 1) := by decide +kernel
theorem dX0_become_12 : decode cX0_become 12 = .ok (.istore_n 2, 1) := by decide +kernel
theorem dX0_become_13 : decode cX0_become 13 = .ok (.iload_n 2, 1) := by decide +kernel
theorem dX0_become_14 : decode cX0_become 14 = .ok (.aload_n 1, 1) := by decide +kernel
theorem dX0_become_15 : decode cX0_become 15 = .ok (.getfield 31, 3) := by decide +kernel
theorem dX0_become_18 : decode cX0_become 18 = .ok (.if_icmp .ge 30, 3) := by decide +kernel
theorem dX0_become_21 : decode cX0_become 21 = .ok (.iload_n 2, 1) := by decide +kernel
theorem dX0_become_22 : decode cX0_become 22 = .ok (.bipush 10, 2) := by decide +kernel
theorem dX0_become_24 : decode cX0_become 24 = .ok (.if_icmp .ge 24, 3) := by decide +kernel
theorem dX0_become_27 : decode cX0_become 27 = .ok (.aload_n 0, 1) := by decide +kernel
theorem dX0_become_28 : decode cX0_become 28 = .ok (.getfield 20, 3) := by decide +kernel
theorem dX0_become_31 : decode cX0_become 31 = .ok (.iload_n 2, 1) := by decide +kernel
theorem dX0_become_32 : decode cX0_become 32 = .ok (.aaload, 1) := by decide +kernel
theorem dX0_become_33 : decode cX0_become 33 = .ok (.aload_n 1, 1) := by decide +kernel
theorem dX0_become_34 : decode cX0_become 34 = .ok (.getfield 20, 3) := by decide +kernel
theorem dX0_become_37 : decode cX0_become 37 = .ok (.iload_n 2, 1) := by decide +kernel
theorem dX0_become_38 : decode cX0_become 38 = .ok (.aaload, 1) := by decide +kernel
theorem dX0_become_39 : decode cX0_become 39 = .ok (.invokevirtual 58, 3) := by decide +kernel
theorem dX0_become_42 : decode cX0_become 42 = .ok (.iinc 2 1, 3) := by decide +kernel
theorem dX0_become_45 : decode cX0_become 45 = .ok (.goto (-32), 3) := by decide +kernel
theorem dX0_become_48 : decode cX0_become 48 = .ok (.aload_n 0, 1) := by decide +kernel
theorem dX0_become_49 : decode cX0_become 49 = .ok (.getfield 27, 3) := by decide +kernel
theorem dX0_become_52 : decode cX0_become 52 = .ok (.aload_n 1, 1) := by decide +kernel
theorem dX0_become_53 : decode cX0_become 53 = .ok (.getfield 27, 3) := by decide +kernel
theorem dX0_become_56 : decode cX0_become 56 = .ok (.invokevirtual 61, 3) := by decide +kernel
theorem dX0_become_59 : decode cX0_become 59 = .ok (.aload_n 0, 1) := by decide +kernel
theorem dX0_become_60 : decode cX0_become 60 = .ok (.aload_n 1, 1) := by decide +kernel
theorem dX0_become_61 : decode cX0_become 61 = .ok (.getfield 31, 3) := by decide +kernel
theorem dX0_become_64 : decode cX0_become 64 = .ok (.putfield 31, 3) := by decide +kernel
theorem dX0_become_67 : decode cX0_become 67 = .ok (.aload_n 0, 1) := by decide +kernel
theorem dX0_become_68 : decode cX0_become 68 = .ok (.aload_n 1, 1) := by decide +kernel
theorem dX0_become_69 : decode cX0_become 69 = .ok (.getfield 35, 3) := by decide +kernel
theorem dX0_become_72 : decode cX0_become 72 = .ok (.putfield 35, 3) := by decide +kernel
theorem dX0_become_75 : decode cX0_become 75 = .ok (.aload_n 0, 1) := by decide +kernel
theorem dX0_become_76 : decode cX0_become 76 = .ok (.aload_n 1, 1) := by decide +kernel
theorem dX0_become_77 : decode cX0_become 77 = .ok (.getfield 38, 3) := by decide +kernel
theorem dX0_become_80 : decode cX0_become 80 = .ok (.putfield 38, 3) := by decide +kernel
theorem dX0_become_83 : decode cX0_become 83 = .ok (.aload_n 0, 1) := by decide +kernel
theorem dX0_become_84 : decode cX0_become 84 = .ok (.aload_n 1, 1) := by decide +kernel
theorem dX0_become_85 : decode cX0_become 85 = .ok (.getfield 41, 3) := by decide +kernel
theorem dX0_become_88 : decode cX0_become 88 = .ok (.putfield 41, 3) := by decide +kernel
theorem dX0_become_91 : decode cX0_become 91 = .ok (.aload_n 0, 1) := by decide +kernel
theorem dX0_become_92 : decode cX0_become 92 = .ok (.aload_n 1, 1) := by decide +kernel
theorem dX0_become_93 : decode cX0_become 93 = .ok (.getfield 44, 3) := by decide +kernel
theorem dX0_become_96 : decode cX0_become 96 = .ok (.putfield 44, 3) := by decide +kernel
theorem dX0_become_99 : decode cX0_become 99 = .ok (.aload_n 0, 1) := by decide +kernel
theorem dX0_become_100 : decode cX0_become 100 = .ok (.aload_n 1, 1) := by decide +kernel
theorem dX0_become_101 : decode cX0_become 101 = .ok (.getfield 47, 3) := by decide +kernel
theorem dX0_become_104 : decode cX0_become 104 = .ok (.putfield 47, 3) := by decide +kernel
theorem dX0_become_107 : decode cX0_become 107 = .ok (.aload_n 0, 1) := by decide +kernel
theorem dX0_become_108 : decode cX0_become 108 = .ok (.aload_n 1, 1) := by decide +kernel
theorem dX0_become_109 : decode cX0_become 109 = .ok (.getfield 50, 3) := by decide +kernel
theorem dX0_become_112 : decode cX0_become 112 = .ok (.putfield 50, 3) := by decide +kernel
theorem dX0_become_115 : decode cX0_become 115 = .ok (.return_, 1) := by decide +kernel
abbrev x_X0_become (E : mh_E) (d mc ms : Nat) (Post : Option Value → mh_H → Prop) : mh_X := (E, yX0_become, cX0_become, 3, none, d, mc, ms, Post)
def q_X0_become_48 (X : mh_X) : mh_PR := s_al 0 (s_gr 0 2 (s_al 1 (s_gr 0 2 (s_cv X yX2_become 2 1 (s_al 0 (s_al 1 (s_gi 0 3 (s_pi 0 3 (s_al 0 (s_al 1 (s_gi 0 4 (s_pi 0 4 (s_al 0 (s_al 1 (s_gi 0 5 (s_pi 0 5 (s_al 0 (s_al 1 (s_gi 0 6 (s_pi 0 6 (s_al 0 (s_al 1 (s_gi 0 7 (s_pi 0 7 (s_al 0 (s_al 1 (s_gi 0 8 (s_pi 0 8 (s_al 0 (s_al 1 (s_gi 0 9 (s_pi 0 9 (s_vret X)))))))))))))))))))))))))))))))))
theorem b_X0_become_48 {E : mh_E} {d mc ms : Nat} {Post : Option Value → mh_H → Prop} : mh_S (x_X0_become E d mc ms Post) 48 (q_X0_become_48 (x_X0_become E d mc ms Post)) := sn_aload_n dX0_become_48 rfl (sn_getr clX0 (by decide) w_180 dX0_become_49 (sn_aload_n dX0_become_52 rfl (sn_getr clX0 (by decide) w_180 dX0_become_53 (sn_cv w_671 w_672 w_673 w_59 rfl nm_X2_become dX0_become_56 (sn_aload_n dX0_become_59 rfl (sn_aload_n dX0_become_60 rfl (sn_geti clX0 (by decide) w_182 dX0_become_61 (sn_puti clX0 (by decide) w_182 rfl rfl dX0_become_64 (sn_aload_n dX0_become_67 rfl (sn_aload_n dX0_become_68 rfl (sn_geti clX0 (by decide) w_185 dX0_become_69 (sn_puti clX0 (by decide) w_185 rfl rfl dX0_become_72 (sn_aload_n dX0_become_75 rfl (sn_aload_n dX0_become_76 rfl (sn_geti clX0 (by decide) w_187 dX0_become_77 (sn_puti clX0 (by decide) w_187 rfl rfl dX0_become_80 (sn_aload_n dX0_become_83 rfl (sn_aload_n dX0_become_84 rfl (sn_geti clX0 (by decide) w_189 dX0_become_85 (sn_puti clX0 (by decide) w_189 rfl rfl dX0_become_88 (sn_aload_n dX0_become_91 rfl (sn_aload_n dX0_become_92 rfl (sn_geti clX0 (by decide) w_191 dX0_become_93 (sn_puti clX0 (by decide) w_191 rfl rfl dX0_become_96 (sn_aload_n dX0_become_99 rfl (sn_aload_n dX0_become_100 rfl (sn_geti clX0 (by decide) w_193 dX0_become_101 (sn_puti clX0 (by decide) w_193 rfl rfl dX0_become_104 (sn_aload_n dX0_become_107 rfl (sn_aload_n dX0_become_108 rfl (sn_geti clX0 (by decide) w_195 dX0_become_109 (sn_puti clX0 (by decide) w_195 rfl rfl dX0_become_112 (sn_vret rfl dX0_become_115)))))))))))))))))))))))))))))))))
def q_X0_become_13 (X : mh_X) : mh_PR := s_il 2 (s_al 1 (s_gi 0 3 (s_if2 (fun x y => y ≤ x) (q_X0_become_48 X) (s_il 2 (s_push (.int (10)) (s_if2 (fun x y => y ≤ x) (q_X0_become_48 X) (s_al 0 (s_gr 0 1 (s_il 2 (s_aald 6 (s_al 1 (s_gr 0 1 (s_il 2 (s_aald 6 (s_cv X yX6_become 6 1 (s_inc 2 (1) (mh_G X 13)))))))))))))))))
theorem b_X0_become_13 {E : mh_E} {d mc ms : Nat} {Post : Option Value → mh_H → Prop} : mh_S (x_X0_become E d mc ms Post) 13 (q_X0_become_13 (x_X0_become E d mc ms Post)) := sn_iload_n dX0_become_13 rfl (sn_aload_n dX0_become_14 rfl (sn_geti clX0 (by decide) w_182 dX0_become_15 (sn_icmp_ge (tgt := 48) dX0_become_18 (by decide) (b_X0_become_48) (sn_iload_n dX0_become_21 rfl (sn_bipush dX0_become_22 (by decide) (sn_icmp_ge (tgt := 48) dX0_become_24 (by decide) (b_X0_become_48) (sn_aload_n dX0_become_27 rfl (sn_getr clX0 (by decide) w_177 dX0_become_28 (sn_iload_n dX0_become_31 rfl (sn_aaload (by decide) rfl dX0_become_32 (sn_aload_n dX0_become_33 rfl (sn_getr clX0 (by decide) w_177 dX0_become_34 (sn_iload_n dX0_become_37 rfl (sn_aaload (by decide) rfl dX0_become_38 (sn_cv w_667 w_668 w_669 w_61 rfl nm_X6_become dX0_become_39 (sn_iinc dX0_become_42 (by decide) (Nat.le_of_ble_eq_true rfl) (sn_goto (tgt := 13) dX0_become_45 (by decide) (mh_S.G))))))))))))))))))
def q_X0_become_0 (X : mh_X) : mh_PR := s_al 0 (s_gr 0 0 (s_al 1 (s_gr 0 0 (s_cv X yX3_become 3 1 (s_push (.int (0)) (s_is 2 (mh_G X 13)))))))
theorem b_X0_become_0 {E : mh_E} {d mc ms : Nat} {Post : Option Value → mh_H → Prop} : mh_S (x_X0_become E d mc ms Post) 0 (q_X0_become_0 (x_X0_become E d mc ms Post)) := sn_aload_n dX0_become_0 rfl (sn_getr clX0 (by decide) w_174 dX0_become_1 (sn_aload_n dX0_become_4 rfl (sn_getr clX0 (by decide) w_174 dX0_become_5 (sn_cv w_662 w_663 w_664 w_58 rfl nm_X3_become dX0_become_8 (sn_iconst dX0_become_11 (by decide) (sn_istore_n dX0_become_12 rfl (Nat.le_of_ble_eq_true rfl) mh_S.G))))))
theorem m_X0_become {E : mh_E} {d mc ms : Nat} {args : List Value} {h : mh_H} {Post : Option Value → mh_H → Prop} (lv : List (Option Value)) (hl : lv_args 0 args = mh_al 0 lv) (hs : (lg_sl args).length ≤ 3) (hG : q_X0_become_0 (x_X0_become E d mc ms Post) lv [] h 0 0) : mh_M E d mc ms yX0_become args h Post := mh_M.of w_661 (by decide) (by decide) hl hs (b_X0_become_0 _ _ _ _ _ hG)
theorem dX0_putUp_0 : decode cX0_putUp 0 = .ok (.aload_n 0, 1) := by decide +kernel
theorem dX0_putUp_1 : decode cX0_putUp 1 = .ok (.getfield 31, 3) := by decide +kernel
theorem dX0_putUp_4 : decode cX0_putUp 4 = .ok (.ifCond .lt 12, 3) := by decide +kernel
theorem dX0_putUp_7 : decode cX0_putUp 7 = .ok (.aload_n 0, 1) := by decide +kernel
theorem dX0_putUp_8 : decode cX0_putUp 8 = .ok (.getfield 31, 3) := by decide +kernel
theorem dX0_putUp_11 : decode cX0_putUp 11 = .ok (.bipush 10, 2) := by decide +kernel
theorem dX0_putUp_13 : decode cX0_putUp 13 = .ok (.if_icmp .lt 6, 3) := by decide +kernel
theorem dX0_putUp_16 : decode cX0_putUp 16 = .ok (.ldc 64, 2) := by decide +kernel
theorem dX0_putUp_18 : decode cX0_putUp 18 = .ok (.ireturn, 1) := by decide +kernel
theorem dX0_putUp_19 : decode cX0_putUp 19 = .ok (.aload_n 0, 1) := by decide +kernel
theorem dX0_putUp_20 : decode cX0_putUp 20 = .ok (.getfield 20, 3) := by decide +kernel
theorem dX0_putUp_23 : decode cX0_putUp 23 = .ok (.aload_n 0, 1) := by decide +kernel
theorem dX0_putUp_24 : decode cX0_putUp 24 = .ok (.getfield 31, 3) := by decide +kernel
theorem dX0_putUp_27 : decode cX0_putUp 27 = .ok (.aaload, 1) := by decide +kernel
theorem dX0_putUp_28 : decode cX0_putUp 28 = .ok (.astore 6, 2) := by decide +kernel
theorem dX0_putUp_30 : decode cX0_putUp 30 = .ok (.aload 6, 2) := by decide +kernel
theorem dX0_putUp_32 : decode cX0_putUp 32 = .ok (.iload_n 1, 1) := by decide +kernel
theorem dX0_putUp_33 : decode cX0_putUp 33 = .ok (.putfield 65, 3) := by decide +kernel
theorem dX0_putUp_36 : decode cX0_putUp 36 = .ok (.aload 6, 2) := by decide +kernel
theorem dX0_putUp_38 : decode cX0_putUp 38 = .ok (.iload_n 2, 1) := by decide +kernel
theorem dX0_putUp_39 : decode cX0_putUp 39 = .ok (.putfield 68, 3) := by decide +kernel
theorem dX0_putUp_42 : decode cX0_putUp 42 = .ok (.aload 6, 2) := by decide +kernel
theorem dX0_putUp_44 : decode cX0_putUp 44 = .ok (.iload_n 3, 1) := by decide +kernel
theorem dX0_putUp_45 : decode cX0_putUp 45 = .ok (.putfield 71, 3) := by decide +kernel
theorem dX0_putUp_48 : decode cX0_putUp 48 = .ok (.aload 6, 2) := by decide +kernel
theorem dX0_putUp_50 : decode cX0_putUp 50 = .ok (.iload 4, 2) := by decide +kernel
theorem dX0_putUp_52 : decode cX0_putUp 52 = .ok (.putfield 74, 3) := by decide +kernel
theorem dX0_putUp_55 : decode cX0_putUp 55 = .ok (.aload 6, 2) := by decide +kernel
theorem dX0_putUp_57 : decode cX0_putUp 57 = .ok (.iload 5, 2) := by decide +kernel
theorem dX0_putUp_59 : decode cX0_putUp 59 = .ok (.putfield 77, 3) := by decide +kernel
theorem dX0_putUp_62 : decode cX0_putUp 62 = .ok (.aload 6, 2) := by decide +kernel
theorem dX0_putUp_64 : decode cX0_putUp 64 = .ok (.ldc 80, 2) := by decide +kernel
theorem dX0_putUp_66 : decode cX0_putUp 66 = .ok (.putfield 81, 3) := by decide +kernel
theorem dX0_putUp_69 : decode cX0_putUp 69 = .ok (.aload_n 0, 1) := by decide +kernel
theorem dX0_putUp_70 : decode cX0_putUp 70 = .ok (.dup, 1) := by decide +kernel
theorem dX0_putUp_71 : decode cX0_putUp 71 = .ok (.getfield 31, 3) := by decide +kernel
theorem dX0_putUp_74 : decode cX0_putUp 74 = .ok (.iconst 1, 1) := by decide +kernel
theorem dX0_putUp_75 : decode cX0_putUp 75 = .ok (.iadd, 1) := by decide +kernel
theorem dX0_putUp_76 : decode cX0_putUp 76 = .ok (.putfield 31, 3) := by decide +kernel
theorem dX0_putUp_79 : decode cX0_putUp 79 = .ok (.aload_n 0, 1) := by decide +kernel
theorem dX0_putUp_80 : decode cX0_putUp 80 = .ok (.getfield 31, 3) := by decide +kernel
theorem dX0_putUp_83 : decode cX0_putUp 83 = .ok (.iconst 1, 1) := by decide +kernel
theorem dX0_putUp_84 : decode cX0_putUp 84 = .ok (.isub, 1) := by decide +kernel
theorem dX0_putUp_85 : decode cX0_putUp 85 = .ok (.ireturn, 1) := by decide +kernel
abbrev x_X0_putUp (E : mh_E) (d mc ms : Nat) (Post : Option Value → mh_H → Prop) : mh_X := (E, yX0_putUp, cX0_putUp, 7, (some .int), d, mc, ms, Post)
def q_X0_putUp_16 (X : mh_X) : mh_PR := s_push (.int (-1000000003)) (s_iret X)
theorem b_X0_putUp_16 {E : mh_E} {d mc ms : Nat} {Post : Option Value → mh_H → Prop} : mh_S (x_X0_putUp E d mc ms Post) 16 (q_X0_putUp_16 (x_X0_putUp E d mc ms Post)) := sn_ldc dX0_putUp_16 w_392 (sn_iret rfl dX0_putUp_18)
def q_X0_putUp_0 (X : mh_X) : mh_PR := s_al 0 (s_gi 0 3 (s_if1 (fun x => x < 0) (q_X0_putUp_16 X) (s_al 0 (s_gi 0 3 (s_push (.int (10)) (s_if2 (fun x y => x < y) (s_al 0 (s_gr 0 1 (s_al 0 (s_gi 0 3 (s_aald 6 (s_as 6 (s_al 6 (s_il 1 (s_pi 6 0 (s_al 6 (s_il 2 (s_pi 6 1 (s_al 6 (s_il 3 (s_pi 6 2 (s_al 6 (s_il 4 (s_pi 6 3 (s_al 6 (s_il 5 (s_pi 6 4 (s_al 6 (s_push (.int (-1000000005)) (s_pi 6 5 (s_al 0 (s_dup (s_gi 0 3 (s_push (.int (1)) (s_bin (fun x y => x + y) (s_pi 0 3 (s_al 0 (s_gi 0 3 (s_push (.int (1)) (s_bin (fun x y => x - y) (s_iret X))))))))))))))))))))))))))))))))))) (q_X0_putUp_16 X)))))))
theorem b_X0_putUp_0 {E : mh_E} {d mc ms : Nat} {Post : Option Value → mh_H → Prop} : mh_S (x_X0_putUp E d mc ms Post) 0 (q_X0_putUp_0 (x_X0_putUp E d mc ms Post)) := sn_aload_n dX0_putUp_0 rfl (sn_geti clX0 (by decide) w_182 dX0_putUp_1 (sn_if_lt (tgt := 16) dX0_putUp_4 (by decide) (b_X0_putUp_16) (sn_aload_n dX0_putUp_7 rfl (sn_geti clX0 (by decide) w_182 dX0_putUp_8 (sn_bipush dX0_putUp_11 (by decide) (sn_icmp_lt (tgt := 19) dX0_putUp_13 (by decide) (sn_aload_n dX0_putUp_19 rfl (sn_getr clX0 (by decide) w_177 dX0_putUp_20 (sn_aload_n dX0_putUp_23 rfl (sn_geti clX0 (by decide) w_182 dX0_putUp_24 (sn_aaload (by decide) rfl dX0_putUp_27 (sn_astore dX0_putUp_28 (Nat.le_of_ble_eq_true rfl) (sn_aload dX0_putUp_30 (sn_iload_n dX0_putUp_32 rfl (sn_puti clX6 (by decide) w_142 rfl rfl dX0_putUp_33 (sn_aload dX0_putUp_36 (sn_iload_n dX0_putUp_38 rfl (sn_puti clX6 (by decide) w_145 rfl rfl dX0_putUp_39 (sn_aload dX0_putUp_42 (sn_iload_n dX0_putUp_44 rfl (sn_puti clX6 (by decide) w_148 rfl rfl dX0_putUp_45 (sn_aload dX0_putUp_48 (sn_iload dX0_putUp_50 (sn_puti clX6 (by decide) w_152 rfl rfl dX0_putUp_52 (sn_aload dX0_putUp_55 (sn_iload dX0_putUp_57 (sn_puti clX6 (by decide) w_156 rfl rfl dX0_putUp_59 (sn_aload dX0_putUp_62 (sn_ldc dX0_putUp_64 w_393 (sn_puti clX6 (by decide) w_159 rfl rfl dX0_putUp_66 (sn_aload_n dX0_putUp_69 rfl (sn_dup dX0_putUp_70 (sn_geti clX0 (by decide) w_182 dX0_putUp_71 (sn_iconst dX0_putUp_74 (by decide) (sn_iadd dX0_putUp_75 (sn_puti clX0 (by decide) w_182 rfl rfl dX0_putUp_76 (sn_aload_n dX0_putUp_79 rfl (sn_geti clX0 (by decide) w_182 dX0_putUp_80 (sn_iconst dX0_putUp_83 (by decide) (sn_isub dX0_putUp_84 (sn_iret rfl dX0_putUp_85))))))))))))))))))))))))))))))))))) (b_X0_putUp_16)))))))
theorem m_X0_putUp {E : mh_E} {d mc ms : Nat} {args : List Value} {h : mh_H} {Post : Option Value → mh_H → Prop} (lv : List (Option Value)) (hl : lv_args 0 args = mh_al 0 lv) (hs : (lg_sl args).length ≤ 7) (hG : q_X0_putUp_0 (x_X0_putUp E d mc ms Post) lv [] h 0 0) : mh_M E d mc ms yX0_putUp args h Post := mh_M.of w_391 (by decide) (by decide) hl hs (b_X0_putUp_0 _ _ _ _ _ hG)
theorem dX0_putUpDrawn_0 : decode cX0_putUpDrawn 0 = .ok (.aload_n 0, 1) := by decide +kernel
theorem dX0_putUpDrawn_1 : decode cX0_putUpDrawn 1 = .ok (.invokevirtual 84, 3) := by decide +kernel
theorem dX0_putUpDrawn_4 : decode cX0_putUpDrawn 4 = .ok (.bipush 6, 2) := by decide +kernel
theorem dX0_putUpDrawn_6 : decode cX0_putUpDrawn 6 = .ok (.irem, 1) := by decide +kernel
theorem dX0_putUpDrawn_7 : decode cX0_putUpDrawn 7 = .ok (.istore_n 1, 1) := by decide +kernel
theorem dX0_putUpDrawn_8 : decode cX0_putUpDrawn 8 = .ok (.aload_n 0, 1) := by decide +kernel
theorem dX0_putUpDrawn_9 : decode cX0_putUpDrawn 9 = .ok (.invokevirtual 84, 3) := by decide +kernel
theorem dX0_putUpDrawn_12 : decode cX0_putUpDrawn 12 = .ok (.bipush 6, 2) := by decide +kernel
theorem dX0_putUpDrawn_14 : decode cX0_putUpDrawn 14 = .ok (.irem, 1) := by decide +kernel
theorem dX0_putUpDrawn_15 : decode cX0_putUpDrawn 15 = .ok (.istore_n 2, 1) := by decide +kernel
theorem dX0_putUpDrawn_16 : decode cX0_putUpDrawn 16 = .ok (.aload_n 0, 1) := by decide +kernel
theorem dX0_putUpDrawn_17 : decode cX0_putUpDrawn 17 = .ok (.invokevirtual 84, 3) := by decide +kernel
theorem dX0_putUpDrawn_20 : decode cX0_putUpDrawn 20 = .ok (.iconst 4, 1) := by decide +kernel
theorem dX0_putUpDrawn_21 : decode cX0_putUpDrawn 21 = .ok (.irem, 1) := by decide +kernel
theorem dX0_putUpDrawn_22 : decode cX0_putUpDrawn 22 = .ok (.istore_n 3, 1) := by decide +kernel
theorem dX0_putUpDrawn_23 : decode cX0_putUpDrawn 23 = .ok (.aload_n 0, 1) := by decide +kernel
theorem dX0_putUpDrawn_24 : decode cX0_putUpDrawn 24 = .ok (.invokevirtual 84, 3) := by decide +kernel
theorem dX0_putUpDrawn_27 : decode cX0_putUpDrawn 27 = .ok (.bipush 10, 2) := by decide +kernel
theorem dX0_putUpDrawn_29 : decode cX0_putUpDrawn 29 = .ok (.irem, 1) := by decide +kernel
theorem dX0_putUpDrawn_30 : decode cX0_putUpDrawn 30 = .ok (.istore 4, 2) := by decide +kernel
theorem dX0_putUpDrawn_32 : decode cX0_putUpDrawn 32 = .ok (.sipush 9999, 3) := by decide +kernel
theorem dX0_putUpDrawn_35 : decode cX0_putUpDrawn 35 = .ok (.aload_n 0, 1) := by decide +kernel
theorem dX0_putUpDrawn_36 : decode cX0_putUpDrawn 36 = .ok (.getfield 47, 3) := by decide +kernel
theorem dX0_putUpDrawn_39 : decode cX0_putUpDrawn 39 = .ok (.aload_n 0, 1) := by decide +kernel
theorem dX0_putUpDrawn_40 : decode cX0_putUpDrawn 40 = .ok (.invokevirtual 84, 3) := by decide +kernel
theorem dX0_putUpDrawn_43 : decode cX0_putUpDrawn 43 = .ok (.bipush 60, 2) := by decide +kernel
theorem dX0_putUpDrawn_45 : decode cX0_putUpDrawn 45 = .ok (.irem, 1) := by decide +kernel
theorem dX0_putUpDrawn_46 : decode cX0_putUpDrawn 46 = .ok (.iadd, 1) := by decide +kernel
theorem dX0_putUpDrawn_47 : decode cX0_putUpDrawn 47 = .ok (.invokestatic 88, 3) := by decide +kernel
theorem dX0_putUpDrawn_50 : decode cX0_putUpDrawn 50 = .ok (.istore 5, 2) := by decide +kernel
theorem dX0_putUpDrawn_52 : decode cX0_putUpDrawn 52 = .ok (.aload_n 0, 1) := by decide +kernel
theorem dX0_putUpDrawn_53 : decode cX0_putUpDrawn 53 = .ok (.iload_n 1, 1) := by decide +kernel
theorem dX0_putUpDrawn_54 : decode cX0_putUpDrawn 54 = .ok (.iload_n 2, 1) := by decide +kernel
theorem dX0_putUpDrawn_55 : decode cX0_putUpDrawn 55 = .ok (.iload_n 3, 1) := by decide +kernel
theorem dX0_putUpDrawn_56 : decode cX0_putUpDrawn 56 = .ok (.iload 4, 2) := by decide +kernel
theorem dX0_putUpDrawn_58 : decode cX0_putUpDrawn 58 = .ok (.iload 5, 2) := by decide +kernel
theorem dX0_putUpDrawn_60 : decode cX0_putUpDrawn 60 = .ok (.invokevirtual 94, 3) := by decide +kernel
theorem dX0_putUpDrawn_63 : decode cX0_putUpDrawn 63 = .ok (.pop, 1) := by decide +kernel
theorem dX0_putUpDrawn_64 : decode cX0_putUpDrawn 64 = .ok (.return_, 1) := by decide +kernel
abbrev x_X0_putUpDrawn (E : mh_E) (d mc ms : Nat) (Post : Option Value → mh_H → Prop) : mh_X := (E, yX0_putUpDrawn, cX0_putUpDrawn, 6, none, d, mc, ms, Post)
def q_X0_putUpDrawn_0 (X : mh_X) : mh_PR := s_al 0 (s_cv X yX0_draw 0 0 (s_push (.int (6)) (s_div mh_rem (s_is 1 (s_al 0 (s_cv X yX0_draw 0 0 (s_push (.int (6)) (s_div mh_rem (s_is 2 (s_al 0 (s_cv X yX0_draw 0 0 (s_push (.int (4)) (s_div mh_rem (s_is 3 (s_al 0 (s_cv X yX0_draw 0 0 (s_push (.int (10)) (s_div mh_rem (s_is 4 (s_push (.int (9999)) (s_al 0 (s_gi 0 8 (s_al 0 (s_cv X yX0_draw 0 0 (s_push (.int (60)) (s_div mh_rem (s_bin (fun x y => x + y) (s_mm X (fun x y => if y < x then y else x) (s_is 5 (s_al 0 (s_il 1 (s_il 2 (s_il 3 (s_il 4 (s_il 5 (s_cv X yX0_putUp 0 5 (s_pop (s_vret X))))))))))))))))))))))))))))))))))))))
theorem b_X0_putUpDrawn_0 {E : mh_E} {d mc ms : Nat} {Post : Option Value → mh_H → Prop} : mh_S (x_X0_putUpDrawn E d mc ms Post) 0 (q_X0_putUpDrawn_0 (x_X0_putUpDrawn E d mc ms Post)) := sn_aload_n dX0_putUpDrawn_0 rfl (sn_cv w_555 w_556 w_557 w_57 rfl nm_X0_draw dX0_putUpDrawn_1 (sn_bipush dX0_putUpDrawn_4 (by decide) (sn_irem dX0_putUpDrawn_6 (sn_istore_n dX0_putUpDrawn_7 rfl (Nat.le_of_ble_eq_true rfl) (sn_aload_n dX0_putUpDrawn_8 rfl (sn_cv w_555 w_556 w_557 w_57 rfl nm_X0_draw dX0_putUpDrawn_9 (sn_bipush dX0_putUpDrawn_12 (by decide) (sn_irem dX0_putUpDrawn_14 (sn_istore_n dX0_putUpDrawn_15 rfl (Nat.le_of_ble_eq_true rfl) (sn_aload_n dX0_putUpDrawn_16 rfl (sn_cv w_555 w_556 w_557 w_57 rfl nm_X0_draw dX0_putUpDrawn_17 (sn_iconst dX0_putUpDrawn_20 (by decide) (sn_irem dX0_putUpDrawn_21 (sn_istore_n dX0_putUpDrawn_22 rfl (Nat.le_of_ble_eq_true rfl) (sn_aload_n dX0_putUpDrawn_23 rfl (sn_cv w_555 w_556 w_557 w_57 rfl nm_X0_draw dX0_putUpDrawn_24 (sn_bipush dX0_putUpDrawn_27 (by decide) (sn_irem dX0_putUpDrawn_29 (sn_istore dX0_putUpDrawn_30 (Nat.le_of_ble_eq_true rfl) (sn_sipush dX0_putUpDrawn_32 (by decide) (sn_aload_n dX0_putUpDrawn_35 rfl (sn_geti clX0 (by decide) w_193 dX0_putUpDrawn_36 (sn_aload_n dX0_putUpDrawn_39 rfl (sn_cv w_555 w_556 w_557 w_57 rfl nm_X0_draw dX0_putUpDrawn_40 (sn_bipush dX0_putUpDrawn_43 (by decide) (sn_irem dX0_putUpDrawn_45 (sn_iadd dX0_putUpDrawn_46 (sn_mmin w_455 w_456 w_67 w_math_min dX0_putUpDrawn_47 (sn_istore dX0_putUpDrawn_50 (Nat.le_of_ble_eq_true rfl) (sn_aload_n dX0_putUpDrawn_52 rfl (sn_iload_n dX0_putUpDrawn_53 rfl (sn_iload_n dX0_putUpDrawn_54 rfl (sn_iload_n dX0_putUpDrawn_55 rfl (sn_iload dX0_putUpDrawn_56 (sn_iload dX0_putUpDrawn_58 (sn_cv w_560 w_389 w_390 w_57 rfl nm_X0_putUp dX0_putUpDrawn_60 (sn_pop dX0_putUpDrawn_63 (sn_vret rfl dX0_putUpDrawn_64))))))))))))))))))))))))))))))))))))))
theorem m_X0_putUpDrawn {E : mh_E} {d mc ms : Nat} {args : List Value} {h : mh_H} {Post : Option Value → mh_H → Prop} (lv : List (Option Value)) (hl : lv_args 0 args = mh_al 0 lv) (hs : (lg_sl args).length ≤ 6) (hG : q_X0_putUpDrawn_0 (x_X0_putUpDrawn E d mc ms Post) lv [] h 0 0) : mh_M E d mc ms yX0_putUpDrawn args h Post := mh_M.of w_554 (by decide) (by decide) hl hs (b_X0_putUpDrawn_0 _ _ _ _ _ hG)
theorem dX0_draw_0 : decode cX0_draw 0 = .ok (.aload_n 0, 1) := by decide +kernel
theorem dX0_draw_1 : decode cX0_draw 1 = .ok (.aload_n 0, 1) := by decide +kernel
theorem dX0_draw_2 : decode cX0_draw 2 = .ok (.getfield 50, 3) := by decide +kernel
theorem dX0_draw_5 : decode cX0_draw 5 = .ok (.ldc 98, 2) := by decide +kernel
theorem dX0_draw_7 : decode cX0_draw 7 = .ok (.imul, 1) := by decide +kernel
theorem dX0_draw_8 : decode cX0_draw 8 = .ok (.sipush 12345, 3) := by decide +kernel
theorem dX0_draw_11 : decode cX0_draw 11 = .ok (.iadd, 1) := by decide +kernel
theorem dX0_draw_12 : decode cX0_draw 12 = .ok (.putfield 50, 3) := by decide +kernel
theorem dX0_draw_15 : decode cX0_draw 15 = .ok (.aload_n 0, 1) := by decide +kernel
theorem dX0_draw_16 : decode cX0_draw 16 = .ok (.getfield 50, 3) := by decide +kernel
theorem dX0_draw_19 : decode cX0_draw 19 = .ok (.bipush 8, 2) := by decide +kernel
theorem dX0_draw_21 : decode cX0_draw 21 = .ok (.iushr, 1) := by decide +kernel
theorem dX0_draw_22 : decode cX0_draw 22 = .ok (.ireturn, 1) := by decide +kernel
abbrev x_X0_draw (E : mh_E) (d mc ms : Nat) (Post : Option Value → mh_H → Prop) : mh_X := (E, yX0_draw, cX0_draw, 1, (some .int), d, mc, ms, Post)
def q_X0_draw_0 (X : mh_X) : mh_PR := s_al 0 (s_al 0 (s_gi 0 9 (s_push (.int (1103515245)) (s_bin (fun x y => x * y) (s_push (.int (12345)) (s_bin (fun x y => x + y) (s_pi 0 9 (s_al 0 (s_gi 0 9 (s_push (.int (8)) (s_bin mh_ush (s_iret X))))))))))))
theorem b_X0_draw_0 {E : mh_E} {d mc ms : Nat} {Post : Option Value → mh_H → Prop} : mh_S (x_X0_draw E d mc ms Post) 0 (q_X0_draw_0 (x_X0_draw E d mc ms Post)) := sn_aload_n dX0_draw_0 rfl (sn_aload_n dX0_draw_1 rfl (sn_geti clX0 (by decide) w_195 dX0_draw_2 (sn_ldc dX0_draw_5 w_559 (sn_imul dX0_draw_7 (sn_sipush dX0_draw_8 (by decide) (sn_iadd dX0_draw_11 (sn_puti clX0 (by decide) w_195 rfl rfl dX0_draw_12 (sn_aload_n dX0_draw_15 rfl (sn_geti clX0 (by decide) w_195 dX0_draw_16 (sn_bipush dX0_draw_19 (by decide) (sn_iushr dX0_draw_21 (sn_iret rfl dX0_draw_22))))))))))))
theorem m_X0_draw {E : mh_E} {d mc ms : Nat} {args : List Value} {h : mh_H} {Post : Option Value → mh_H → Prop} (lv : List (Option Value)) (hl : lv_args 0 args = mh_al 0 lv) (hs : (lg_sl args).length ≤ 1) (hG : q_X0_draw_0 (x_X0_draw E d mc ms Post) lv [] h 0 0) : mh_M E d mc ms yX0_draw args h Post := mh_M.of w_558 (by decide) (by decide) hl hs (b_X0_draw_0 _ _ _ _ _ hG)
theorem dX0_holds_0 : decode cX0_holds 0 = .ok (.aload_n 1, 1) := by decide +kernel
theorem dX0_holds_1 : decode cX0_holds 1 = .ok (.aload_n 0, 1) := by decide +kernel
theorem dX0_holds_2 : decode cX0_holds 2 = .ok (.getfield 12, 3) := by decide +kernel
theorem dX0_holds_5 : decode cX0_holds 5 = .ok (.aload_n 1, 1) := by decide +kernel
theorem dX0_holds_6 : decode cX0_holds 6 = .ok (.getfield 71, 3) := by decide +kernel
theorem dX0_holds_9 : decode cX0_holds 9 = .ok (.invokevirtual 99, 3) := by decide +kernel
theorem dX0_holds_12 : decode cX0_holds 12 = .ok (.aload_n 0, 1) := by decide +kernel
theorem dX0_holds_13 : decode cX0_holds 13 = .ok (.getfield 12, 3) := by decide +kernel
theorem dX0_holds_16 : decode cX0_holds 16 = .ok (.aload_n 1, 1) := by decide +kernel
theorem dX0_holds_17 : decode cX0_holds 17 = .ok (.getfield 74, 3) := by decide +kernel
theorem dX0_holds_20 : decode cX0_holds 20 = .ok (.invokevirtual 103, 3) := by decide +kernel
theorem dX0_holds_23 : decode cX0_holds 23 = .ok (.invokevirtual 106, 3) := by decide +kernel
theorem dX0_holds_26 : decode cX0_holds 26 = .ok (.ireturn, 1) := by decide +kernel
abbrev x_X0_holds (E : mh_E) (d mc ms : Nat) (Post : Option Value → mh_H → Prop) : mh_X := (E, yX0_holds, cX0_holds, 2, (some .boolean), d, mc, ms, Post)
def q_X0_holds_0 (X : mh_X) : mh_PR := s_al 1 (s_al 0 (s_gr 0 0 (s_al 1 (s_gi 6 2 (s_cv X yX3_crowdAt 3 1 (s_al 0 (s_gr 0 0 (s_al 1 (s_gi 6 3 (s_cv X yX3_ableTo 3 1 (s_cv X yX6_holdsWith 6 2 (s_zret X))))))))))))
theorem b_X0_holds_0 {E : mh_E} {d mc ms : Nat} {Post : Option Value → mh_H → Prop} : mh_S (x_X0_holds E d mc ms Post) 0 (q_X0_holds_0 (x_X0_holds E d mc ms Post)) := sn_aload_n dX0_holds_0 rfl (sn_aload_n dX0_holds_1 rfl (sn_getr clX0 (by decide) w_174 dX0_holds_2 (sn_aload_n dX0_holds_5 rfl (sn_geti clX6 (by decide) w_148 dX0_holds_6 (sn_cv w_406 w_407 w_408 w_58 rfl nm_X3_crowdAt dX0_holds_9 (sn_aload_n dX0_holds_12 rfl (sn_getr clX0 (by decide) w_174 dX0_holds_13 (sn_aload_n dX0_holds_16 rfl (sn_geti clX6 (by decide) w_152 dX0_holds_17 (sn_cv w_411 w_412 w_413 w_58 rfl nm_X3_ableTo dX0_holds_20 (sn_cv w_416 w_417 w_418 w_61 rfl nm_X6_holdsWith dX0_holds_23 (sn_zret rfl dX0_holds_26))))))))))))
theorem m_X0_holds {E : mh_E} {d mc ms : Nat} {args : List Value} {h : mh_H} {Post : Option Value → mh_H → Prop} (lv : List (Option Value)) (hl : lv_args 0 args = mh_al 0 lv) (hs : (lg_sl args).length ≤ 2) (hG : q_X0_holds_0 (x_X0_holds E d mc ms Post) lv [] h 0 0) : mh_M E d mc ms yX0_holds args h Post := mh_M.of w_405 (by decide) (by decide) hl hs (b_X0_holds_0 _ _ _ _ _ hG)
theorem dX0_keeps_0 : decode cX0_keeps 0 = .ok (.aload_n 1, 1) := by decide +kernel
theorem dX0_keeps_1 : decode cX0_keeps 1 = .ok (.getfield 65, 3) := by decide +kernel
theorem dX0_keeps_4 : decode cX0_keeps 4 = .ok (.iconst 5, 1) := by decide +kernel
theorem dX0_keeps_5 : decode cX0_keeps 5 = .ok (.if_icmp .ne 5, 3) := by decide +kernel
theorem dX0_keeps_8 : decode cX0_keeps 8 = .ok (.iconst 0, 1) := by decide +kernel
theorem dX0_keeps_9 : decode cX0_keeps 9 = .ok (.ireturn, 1) := by decide +kernel
theorem dX0_keeps_10 : decode cX0_keeps 10 = .ok (.aload_n 0, 1) := by decide +kernel
theorem dX0_keeps_11 : decode cX0_keeps 11 = .ok (.getfield 27, 3) := by decide +kernel
theorem dX0_keeps_14 : decode cX0_keeps 14 = .ok (.iconst 0, 1) := by decide +kernel
theorem dX0_keeps_15 : decode cX0_keeps 15 = .ok (.aload_n 1, 1) := by decide +kernel
theorem dX0_keeps_16 : decode cX0_keeps 16 = .ok (.getfield 74, 3) := by decide +kernel
theorem dX0_keeps_19 : decode cX0_keeps 19 = .ok (.aload_n 0, 1) := by decide +kernel
theorem dX0_keeps_20 : decode cX0_keeps 20 = .ok (.getfield 47, 3) := by decide +kernel
theorem dX0_keeps_23 : decode cX0_keeps 23 = .ok (.iconst 0, 1) := by decide +kernel
theorem dX0_keeps_24 : decode cX0_keeps 24 = .ok (.aload_n 1, 1) := by decide +kernel
theorem dX0_keeps_25 : decode cX0_keeps 25 = .ok (.getfield 77, 3) := by decide +kernel
theorem dX0_keeps_28 : decode cX0_keeps 28 = .ok (.aload_n 0, 1) := by decide +kernel
theorem dX0_keeps_29 : decode cX0_keeps 29 = .ok (.getfield 47, 3) := by decide +kernel
theorem dX0_keeps_32 : decode cX0_keeps 32 = .ok (.isub, 1) := by decide +kernel
theorem dX0_keeps_33 : decode cX0_keeps 33 = .ok (.invokestatic 110, 3) := by decide +kernel
theorem dX0_keeps_36 : decode cX0_keeps 36 = .ok (.iconst 1, 1) := by decide +kernel
theorem dX0_keeps_37 : decode cX0_keeps 37 = .ok (.invokevirtual 113, 3) := by decide +kernel
theorem dX0_keeps_40 : decode cX0_keeps 40 = .ok (.istore_n 2, 1) := by decide +kernel
theorem dX0_keeps_41 : decode cX0_keeps 41 = .ok (.aload_n 1, 1) := by decide +kernel
theorem dX0_keeps_42 : decode cX0_keeps 42 = .ok (.iconst 0, 1) := by decide +kernel
theorem dX0_keeps_43 : decode cX0_keeps 43 = .ok (.bipush 99, 2) := by decide +kernel
theorem dX0_keeps_45 : decode cX0_keeps 45 = .ok (.iload_n 2, 1) := by decide +kernel
theorem dX0_keeps_46 : decode cX0_keeps 46 = .ok (.invokestatic 88, 3) := by decide +kernel
theorem dX0_keeps_49 : decode cX0_keeps 49 = .ok (.invokestatic 110, 3) := by decide +kernel
theorem dX0_keeps_52 : decode cX0_keeps 52 = .ok (.invokevirtual 116, 3) := by decide +kernel
theorem dX0_keeps_55 : decode cX0_keeps 55 = .ok (.ireturn, 1) := by decide +kernel
abbrev x_X0_keeps (E : mh_E) (d mc ms : Nat) (Post : Option Value → mh_H → Prop) : mh_X := (E, yX0_keeps, cX0_keeps, 3, (some .int), d, mc, ms, Post)
def q_X0_keeps_0 (X : mh_X) : mh_PR := s_al 1 (s_gi 6 0 (s_push (.int (5)) (s_if2 (fun x y => ¬ x = y) (s_al 0 (s_gr 0 2 (s_push (.int (0)) (s_al 1 (s_gi 6 3 (s_al 0 (s_gi 0 8 (s_push (.int (0)) (s_al 1 (s_gi 6 4 (s_al 0 (s_gi 0 8 (s_bin (fun x y => x - y) (s_mm X (fun x y => if x < y then y else x) (s_push (.int (1)) (s_cv X yX2_given 2 5 (s_is 2 (s_al 1 (s_push (.int (0)) (s_push (.int (99)) (s_il 2 (s_mm X (fun x y => if y < x then y else x) (s_mm X (fun x y => if x < y then y else x) (s_cv X yX6_keepsBy 6 1 (s_iret X))))))))))))))))))))))))) (s_push (.int (0)) (s_iret X)))))
theorem b_X0_keeps_0 {E : mh_E} {d mc ms : Nat} {Post : Option Value → mh_H → Prop} : mh_S (x_X0_keeps E d mc ms Post) 0 (q_X0_keeps_0 (x_X0_keeps E d mc ms Post)) := sn_aload_n dX0_keeps_0 rfl (sn_geti clX6 (by decide) w_142 dX0_keeps_1 (sn_iconst dX0_keeps_4 (by decide) (sn_icmp_ne (tgt := 10) dX0_keeps_5 (by decide) (sn_aload_n dX0_keeps_10 rfl (sn_getr clX0 (by decide) w_180 dX0_keeps_11 (sn_iconst dX0_keeps_14 (by decide) (sn_aload_n dX0_keeps_15 rfl (sn_geti clX6 (by decide) w_152 dX0_keeps_16 (sn_aload_n dX0_keeps_19 rfl (sn_geti clX0 (by decide) w_193 dX0_keeps_20 (sn_iconst dX0_keeps_23 (by decide) (sn_aload_n dX0_keeps_24 rfl (sn_geti clX6 (by decide) w_156 dX0_keeps_25 (sn_aload_n dX0_keeps_28 rfl (sn_geti clX0 (by decide) w_193 dX0_keeps_29 (sn_isub dX0_keeps_32 (sn_mmax w_424 w_425 w_67 w_math_max dX0_keeps_33 (sn_iconst dX0_keeps_36 (by decide) (sn_cv w_427 w_428 w_429 w_59 rfl nm_X2_given dX0_keeps_37 (sn_istore_n dX0_keeps_40 rfl (Nat.le_of_ble_eq_true rfl) (sn_aload_n dX0_keeps_41 rfl (sn_iconst dX0_keeps_42 (by decide) (sn_bipush dX0_keeps_43 (by decide) (sn_iload_n dX0_keeps_45 rfl (sn_mmin w_455 w_456 w_67 w_math_min dX0_keeps_46 (sn_mmax w_424 w_425 w_67 w_math_max dX0_keeps_49 (sn_cv w_458 w_459 w_460 w_61 rfl nm_X6_keepsBy dX0_keeps_52 (sn_iret rfl dX0_keeps_55))))))))))))))))))))))))) (sn_iconst dX0_keeps_8 (by decide) (sn_iret rfl dX0_keeps_9)))))
theorem m_X0_keeps {E : mh_E} {d mc ms : Nat} {args : List Value} {h : mh_H} {Post : Option Value → mh_H → Prop} (lv : List (Option Value)) (hl : lv_args 0 args = mh_al 0 lv) (hs : (lg_sl args).length ≤ 3) (hG : q_X0_keeps_0 (x_X0_keeps E d mc ms Post) lv [] h 0 0) : mh_M E d mc ms yX0_keeps args h Post := mh_M.of w_423 (by decide) (by decide) hl hs (b_X0_keeps_0 _ _ _ _ _ hG)
theorem dX0_passYears_0 : decode cX0_passYears 0 = .ok (.iconst 0, 1) := by decide +kernel
theorem dX0_passYears_1 : decode cX0_passYears 1 = .ok (.istore_n 2, 1) := by decide +kernel
theorem dX0_passYears_2 : decode cX0_passYears 2 = .ok (.iconst 0, 1) := by decide +kernel
theorem dX0_passYears_3 : decode cX0_passYears 3 = .ok (.istore_n 3, 1) := by decide +kernel
theorem dX0_passYears_4 : decode cX0_passYears 4 = .ok (.iload_n 3, 1) := by decide +kernel
theorem dX0_passYears_5 : decode cX0_passYears 5 = .ok (.iload_n 1, 1) := by decide +kernel
theorem dX0_passYears_6 : decode cX0_passYears 6 = .ok (.if_icmp .ge 34, 3) := by decide +kernel
theorem dX0_passYears_9 : decode cX0_passYears 9 = .ok (.aload_n 0, 1) := by decide +kernel
theorem dX0_passYears_10 : decode cX0_passYears 10 = .ok (.invokevirtual 119, 3) := by decide +kernel
theorem dX0_passYears_13 : decode cX0_passYears 13 = .ok (.iload_n 2, 1) := by decide +kernel
theorem dX0_passYears_14 : decode cX0_passYears 14 = .ok (.aload_n 0, 1) := by decide +kernel
theorem dX0_passYears_15 : decode cX0_passYears 15 = .ok (.invokevirtual 122, 3) := by decide +kernel
theorem dX0_passYears_18 : decode cX0_passYears 18 = .ok (.iadd, 1) := by decide +kernel
theorem dX0_passYears_19 : decode cX0_passYears 19 = .ok (.istore_n 2, 1) := by decide +kernel
theorem dX0_passYears_20 : decode cX0_passYears 20 = .ok (.aload_n 0, 1) := by decide +kernel
theorem dX0_passYears_21 : decode cX0_passYears 21 = .ok (.invokevirtual 125, 3) := by decide +kernel
theorem dX0_passYears_24 : decode cX0_passYears 24 = .ok (.aload_n 0, 1) := by decide +kernel
theorem dX0_passYears_25 : decode cX0_passYears 25 = .ok (.dup, 1) := by decide +kernel
theorem dX0_passYears_26 : decode cX0_passYears 26 = .ok (.getfield 47, 3) := by decide +kernel
theorem dX0_passYears_29 : decode cX0_passYears 29 = .ok (.iconst 1, 1) := by decide +kernel
theorem dX0_passYears_30 : decode cX0_passYears 30 = .ok (.iadd, 1) := by decide +kernel
theorem dX0_passYears_31 : decode cX0_passYears 31 = .ok (.putfield 47, 3) := by decide +kernel
theorem dX0_passYears_34 : decode cX0_passYears 34 = .ok (.iinc 3 1, 3) := by decide +kernel
theorem dX0_passYears_37 : decode cX0_passYears 37 = .ok (.goto (-33), 3) := by decide +kernel
theorem dX0_passYears_40 : decode cX0_passYears 40 = .ok (.iload_n 2, 1) := by decide +kernel
theorem dX0_passYears_41 : decode cX0_passYears 41 = .ok (.ireturn, 1) := by decide +kernel
abbrev x_X0_passYears (E : mh_E) (d mc ms : Nat) (Post : Option Value → mh_H → Prop) : mh_X := (E, yX0_passYears, cX0_passYears, 4, (some .int), d, mc, ms, Post)
def q_X0_passYears_4 (X : mh_X) : mh_PR := s_il 3 (s_il 1 (s_if2 (fun x y => y ≤ x) (s_il 2 (s_iret X)) (s_al 0 (s_cv X yX0_stir 0 0 (s_il 2 (s_al 0 (s_cv X yX0_fulfil 0 0 (s_bin (fun x y => x + y) (s_is 2 (s_al 0 (s_cv X yX0_pay 0 0 (s_al 0 (s_dup (s_gi 0 8 (s_push (.int (1)) (s_bin (fun x y => x + y) (s_pi 0 8 (s_inc 3 (1) (mh_G X 4)))))))))))))))))))
theorem b_X0_passYears_4 {E : mh_E} {d mc ms : Nat} {Post : Option Value → mh_H → Prop} : mh_S (x_X0_passYears E d mc ms Post) 4 (q_X0_passYears_4 (x_X0_passYears E d mc ms Post)) := sn_iload_n dX0_passYears_4 rfl (sn_iload_n dX0_passYears_5 rfl (sn_icmp_ge (tgt := 40) dX0_passYears_6 (by decide) (sn_iload_n dX0_passYears_40 rfl (sn_iret rfl dX0_passYears_41)) (sn_aload_n dX0_passYears_9 rfl (sn_cv w_574 w_575 w_576 w_57 rfl nm_X0_stir dX0_passYears_10 (sn_iload_n dX0_passYears_13 rfl (sn_aload_n dX0_passYears_14 rfl (sn_cv w_581 w_582 w_583 w_57 rfl nm_X0_fulfil dX0_passYears_15 (sn_iadd dX0_passYears_18 (sn_istore_n dX0_passYears_19 rfl (Nat.le_of_ble_eq_true rfl) (sn_aload_n dX0_passYears_20 rfl (sn_cv w_587 w_588 w_589 w_57 rfl nm_X0_pay dX0_passYears_21 (sn_aload_n dX0_passYears_24 rfl (sn_dup dX0_passYears_25 (sn_geti clX0 (by decide) w_193 dX0_passYears_26 (sn_iconst dX0_passYears_29 (by decide) (sn_iadd dX0_passYears_30 (sn_puti clX0 (by decide) w_193 rfl rfl dX0_passYears_31 (sn_iinc dX0_passYears_34 (by decide) (Nat.le_of_ble_eq_true rfl) (sn_goto (tgt := 4) dX0_passYears_37 (by decide) (mh_S.G))))))))))))))))))))
def q_X0_passYears_0 (X : mh_X) : mh_PR := s_push (.int (0)) (s_is 2 (s_push (.int (0)) (s_is 3 (mh_G X 4))))
theorem b_X0_passYears_0 {E : mh_E} {d mc ms : Nat} {Post : Option Value → mh_H → Prop} : mh_S (x_X0_passYears E d mc ms Post) 0 (q_X0_passYears_0 (x_X0_passYears E d mc ms Post)) := sn_iconst dX0_passYears_0 (by decide) (sn_istore_n dX0_passYears_1 rfl (Nat.le_of_ble_eq_true rfl) (sn_iconst dX0_passYears_2 (by decide) (sn_istore_n dX0_passYears_3 rfl (Nat.le_of_ble_eq_true rfl) mh_S.G)))
theorem m_X0_passYears {E : mh_E} {d mc ms : Nat} {args : List Value} {h : mh_H} {Post : Option Value → mh_H → Prop} (lv : List (Option Value)) (hl : lv_args 0 args = mh_al 0 lv) (hs : (lg_sl args).length ≤ 4) (hG : q_X0_passYears_0 (x_X0_passYears E d mc ms Post) lv [] h 0 0) : mh_M E d mc ms yX0_passYears args h Post := mh_M.of w_573 (by decide) (by decide) hl hs (b_X0_passYears_0 _ _ _ _ _ hG)
theorem dX0_passUnpaid_0 : decode cX0_passUnpaid 0 = .ok (.iconst 0, 1) := by decide +kernel
theorem dX0_passUnpaid_1 : decode cX0_passUnpaid 1 = .ok (.istore_n 2, 1) := by decide +kernel
theorem dX0_passUnpaid_2 : decode cX0_passUnpaid 2 = .ok (.iload_n 2, 1) := by decide +kernel
theorem dX0_passUnpaid_3 : decode cX0_passUnpaid 3 = .ok (.iload_n 1, 1) := by decide +kernel
theorem dX0_passUnpaid_4 : decode cX0_passUnpaid 4 = .ok (.if_icmp .ge 28, 3) := by decide +kernel
theorem dX0_passUnpaid_7 : decode cX0_passUnpaid 7 = .ok (.aload_n 0, 1) := by decide +kernel
theorem dX0_passUnpaid_8 : decode cX0_passUnpaid 8 = .ok (.invokevirtual 119, 3) := by decide +kernel
theorem dX0_passUnpaid_11 : decode cX0_passUnpaid 11 = .ok (.aload_n 0, 1) := by decide +kernel
theorem dX0_passUnpaid_12 : decode cX0_passUnpaid 12 = .ok (.invokevirtual 122, 3) := by decide +kernel
theorem dX0_passUnpaid_15 : decode cX0_passUnpaid 15 = .ok (.pop, 1) := by decide +kernel
theorem dX0_passUnpaid_16 : decode cX0_passUnpaid 16 = .ok (.aload_n 0, 1) := by decide +kernel
theorem dX0_passUnpaid_17 : decode cX0_passUnpaid 17 = .ok (.dup, 1) := by decide +kernel
theorem dX0_passUnpaid_18 : decode cX0_passUnpaid 18 = .ok (.getfield 47, 3) := by decide +kernel
theorem dX0_passUnpaid_21 : decode cX0_passUnpaid 21 = .ok (.iconst 1, 1) := by decide +kernel
theorem dX0_passUnpaid_22 : decode cX0_passUnpaid 22 = .ok (.iadd, 1) := by decide +kernel
theorem dX0_passUnpaid_23 : decode cX0_passUnpaid 23 = .ok (.putfield 47, 3) := by decide +kernel
theorem dX0_passUnpaid_26 : decode cX0_passUnpaid 26 = .ok (.iinc 2 1, 3) := by decide +kernel
theorem dX0_passUnpaid_29 : decode cX0_passUnpaid 29 = .ok (.goto (-27), 3) := by decide +kernel
theorem dX0_passUnpaid_32 : decode cX0_passUnpaid 32 = .ok (.return_, 1) := by decide +kernel
abbrev x_X0_passUnpaid (E : mh_E) (d mc ms : Nat) (Post : Option Value → mh_H → Prop) : mh_X := (E, yX0_passUnpaid, cX0_passUnpaid, 3, none, d, mc, ms, Post)
def q_X0_passUnpaid_2 (X : mh_X) : mh_PR := s_il 2 (s_il 1 (s_if2 (fun x y => y ≤ x) (s_vret X) (s_al 0 (s_cv X yX0_stir 0 0 (s_al 0 (s_cv X yX0_fulfil 0 0 (s_pop (s_al 0 (s_dup (s_gi 0 8 (s_push (.int (1)) (s_bin (fun x y => x + y) (s_pi 0 8 (s_inc 2 (1) (mh_G X 2)))))))))))))))
theorem b_X0_passUnpaid_2 {E : mh_E} {d mc ms : Nat} {Post : Option Value → mh_H → Prop} : mh_S (x_X0_passUnpaid E d mc ms Post) 2 (q_X0_passUnpaid_2 (x_X0_passUnpaid E d mc ms Post)) := sn_iload_n dX0_passUnpaid_2 rfl (sn_iload_n dX0_passUnpaid_3 rfl (sn_icmp_ge (tgt := 32) dX0_passUnpaid_4 (by decide) (sn_vret rfl dX0_passUnpaid_32) (sn_aload_n dX0_passUnpaid_7 rfl (sn_cv w_574 w_575 w_576 w_57 rfl nm_X0_stir dX0_passUnpaid_8 (sn_aload_n dX0_passUnpaid_11 rfl (sn_cv w_581 w_582 w_583 w_57 rfl nm_X0_fulfil dX0_passUnpaid_12 (sn_pop dX0_passUnpaid_15 (sn_aload_n dX0_passUnpaid_16 rfl (sn_dup dX0_passUnpaid_17 (sn_geti clX0 (by decide) w_193 dX0_passUnpaid_18 (sn_iconst dX0_passUnpaid_21 (by decide) (sn_iadd dX0_passUnpaid_22 (sn_puti clX0 (by decide) w_193 rfl rfl dX0_passUnpaid_23 (sn_iinc dX0_passUnpaid_26 (by decide) (Nat.le_of_ble_eq_true rfl) (sn_goto (tgt := 2) dX0_passUnpaid_29 (by decide) (mh_S.G))))))))))))))))
def q_X0_passUnpaid_0 (X : mh_X) : mh_PR := s_push (.int (0)) (s_is 2 (mh_G X 2))
theorem b_X0_passUnpaid_0 {E : mh_E} {d mc ms : Nat} {Post : Option Value → mh_H → Prop} : mh_S (x_X0_passUnpaid E d mc ms Post) 0 (q_X0_passUnpaid_0 (x_X0_passUnpaid E d mc ms Post)) := sn_iconst dX0_passUnpaid_0 (by decide) (sn_istore_n dX0_passUnpaid_1 rfl (Nat.le_of_ble_eq_true rfl) mh_S.G)
theorem m_X0_passUnpaid {E : mh_E} {d mc ms : Nat} {args : List Value} {h : mh_H} {Post : Option Value → mh_H → Prop} (lv : List (Option Value)) (hl : lv_args 0 args = mh_al 0 lv) (hs : (lg_sl args).length ≤ 3) (hG : q_X0_passUnpaid_0 (x_X0_passUnpaid E d mc ms Post) lv [] h 0 0) : mh_M E d mc ms yX0_passUnpaid args h Post := mh_M.of w_683 (by decide) (by decide) hl hs (b_X0_passUnpaid_0 _ _ _ _ _ hG)
theorem dX0_fulfilledBehind_0 : decode cX0_fulfilledBehind 0 = .ok (.aload_n 0, 1) := by decide +kernel
theorem dX0_fulfilledBehind_1 : decode cX0_fulfilledBehind 1 = .ok (.iload_n 1, 1) := by decide +kernel
theorem dX0_fulfilledBehind_2 : decode cX0_fulfilledBehind 2 = .ok (.invokevirtual 128, 3) := by decide +kernel
theorem dX0_fulfilledBehind_5 : decode cX0_fulfilledBehind 5 = .ok (.aload_n 0, 1) := by decide +kernel
theorem dX0_fulfilledBehind_6 : decode cX0_fulfilledBehind 6 = .ok (.invokevirtual 132, 3) := by decide +kernel
theorem dX0_fulfilledBehind_9 : decode cX0_fulfilledBehind 9 = .ok (.invokestatic 135, 3) := by decide +kernel
theorem dX0_fulfilledBehind_12 : decode cX0_fulfilledBehind 12 = .ok (.ireturn, 1) := by decide +kernel
abbrev x_X0_fulfilledBehind (E : mh_E) (d mc ms : Nat) (Post : Option Value → mh_H → Prop) : mh_X := (E, yX0_fulfilledBehind, cX0_fulfilledBehind, 2, (some .int), d, mc, ms, Post)
def q_X0_fulfilledBehind_0 (X : mh_X) : mh_PR := s_al 0 (s_il 1 (s_cv X yX0_passUnpaid 0 1 (s_al 0 (s_cv X yX0_fulfilledSet 0 0 (s_cs X yJ6_bitCount_0f7a4 1 (s_iret X))))))
theorem b_X0_fulfilledBehind_0 {E : mh_E} {d mc ms : Nat} {Post : Option Value → mh_H → Prop} : mh_S (x_X0_fulfilledBehind E d mc ms Post) 0 (q_X0_fulfilledBehind_0 (x_X0_fulfilledBehind E d mc ms Post)) := sn_aload_n dX0_fulfilledBehind_0 rfl (sn_iload_n dX0_fulfilledBehind_1 rfl (sn_cv w_680 w_681 w_682 w_57 rfl nm_X0_passUnpaid dX0_fulfilledBehind_2 (sn_aload_n dX0_fulfilledBehind_5 rfl (sn_cv w_684 w_597 w_598 w_57 rfl nm_X0_fulfilledSet dX0_fulfilledBehind_6 (sn_cs w_685 w_629 w_69 nm_J6_bitCount_0f7a4 dX0_fulfilledBehind_9 (sn_iret rfl dX0_fulfilledBehind_12))))))
theorem m_X0_fulfilledBehind {E : mh_E} {d mc ms : Nat} {args : List Value} {h : mh_H} {Post : Option Value → mh_H → Prop} (lv : List (Option Value)) (hl : lv_args 0 args = mh_al 0 lv) (hs : (lg_sl args).length ≤ 2) (hG : q_X0_fulfilledBehind_0 (x_X0_fulfilledBehind E d mc ms Post) lv [] h 0 0) : mh_M E d mc ms yX0_fulfilledBehind args h Post := mh_M.of w_679 (by decide) (by decide) hl hs (b_X0_fulfilledBehind_0 _ _ _ _ _ hG)
theorem dX0_stir_0 : decode cX0_stir 0 = .ok (.aload_n 0, 1) := by decide +kernel
theorem dX0_stir_1 : decode cX0_stir 1 = .ok (.invokevirtual 84, 3) := by decide +kernel
theorem dX0_stir_4 : decode cX0_stir 4 = .ok (.bipush 100, 2) := by decide +kernel
theorem dX0_stir_6 : decode cX0_stir 6 = .ok (.irem, 1) := by decide +kernel
theorem dX0_stir_7 : decode cX0_stir 7 = .ok (.aload_n 0, 1) := by decide +kernel
theorem dX0_stir_8 : decode cX0_stir 8 = .ok (.getfield 35, 3) := by decide +kernel
theorem dX0_stir_11 : decode cX0_stir 11 = .ok (.if_icmp .ge 25, 3) := by decide +kernel
theorem dX0_stir_14 : decode cX0_stir 14 = .ok (.aload_n 0, 1) := by decide +kernel
theorem dX0_stir_15 : decode cX0_stir 15 = .ok (.invokevirtual 84, 3) := by decide +kernel
theorem dX0_stir_18 : decode cX0_stir 18 = .ok (.bipush 6, 2) := by decide +kernel
theorem dX0_stir_20 : decode cX0_stir 20 = .ok (.irem, 1) := by decide +kernel
theorem dX0_stir_21 : decode cX0_stir 21 = .ok (.istore_n 1, 1) := by decide +kernel
theorem dX0_stir_22 : decode cX0_stir 22 = .ok (.aload_n 0, 1) := by decide +kernel
theorem dX0_stir_23 : decode cX0_stir 23 = .ok (.getfield 12, 3) := by decide +kernel
theorem dX0_stir_26 : decode cX0_stir 26 = .ok (.iload_n 1, 1) := by decide +kernel
theorem dX0_stir_27 : decode cX0_stir 27 = .ok (.aload_n 0, 1) := by decide +kernel
theorem dX0_stir_28 : decode cX0_stir 28 = .ok (.invokevirtual 84, 3) := by decide +kernel
theorem dX0_stir_31 : decode cX0_stir 31 = .ok (.iconst 4, 1) := by decide +kernel
theorem dX0_stir_32 : decode cX0_stir 32 = .ok (.irem, 1) := by decide +kernel
theorem dX0_stir_33 : decode cX0_stir 33 = .ok (.invokevirtual 140, 3) := by decide +kernel
theorem dX0_stir_36 : decode cX0_stir 36 = .ok (.aload_n 0, 1) := by decide +kernel
theorem dX0_stir_37 : decode cX0_stir 37 = .ok (.invokevirtual 84, 3) := by decide +kernel
theorem dX0_stir_40 : decode cX0_stir 40 = .ok (.bipush 100, 2) := by decide +kernel
theorem dX0_stir_42 : decode cX0_stir 42 = .ok (.irem, 1) := by decide +kernel
theorem dX0_stir_43 : decode cX0_stir 43 = .ok (.aload_n 0, 1) := by decide +kernel
theorem dX0_stir_44 : decode cX0_stir 44 = .ok (.getfield 38, 3) := by decide +kernel
theorem dX0_stir_47 : decode cX0_stir 47 = .ok (.if_icmp .ge 32, 3) := by decide +kernel
theorem dX0_stir_50 : decode cX0_stir 50 = .ok (.aload_n 0, 1) := by decide +kernel
theorem dX0_stir_51 : decode cX0_stir 51 = .ok (.invokevirtual 84, 3) := by decide +kernel
theorem dX0_stir_54 : decode cX0_stir 54 = .ok (.bipush 6, 2) := by decide +kernel
theorem dX0_stir_56 : decode cX0_stir 56 = .ok (.irem, 1) := by decide +kernel
theorem dX0_stir_57 : decode cX0_stir 57 = .ok (.istore_n 1, 1) := by decide +kernel
theorem dX0_stir_58 : decode cX0_stir 58 = .ok (.aload_n 0, 1) := by decide +kernel
theorem dX0_stir_59 : decode cX0_stir 59 = .ok (.getfield 12, 3) := by decide +kernel
theorem dX0_stir_62 : decode cX0_stir 62 = .ok (.iload_n 1, 1) := by decide +kernel
theorem dX0_stir_63 : decode cX0_stir 63 = .ok (.aload_n 0, 1) := by decide +kernel
theorem dX0_stir_64 : decode cX0_stir 64 = .ok (.getfield 12, 3) := by decide +kernel
theorem dX0_stir_67 : decode cX0_stir 67 = .ok (.iload_n 1, 1) := by decide +kernel
theorem dX0_stir_68 : decode cX0_stir 68 = .ok (.invokevirtual 144, 3) := by decide +kernel
theorem dX0_stir_71 : decode cX0_stir 71 = .ok (.iconst 1, 1) := by decide +kernel
theorem dX0_stir_72 : decode cX0_stir 72 = .ok (.iadd, 1) := by decide +kernel
theorem dX0_stir_73 : decode cX0_stir 73 = .ok (.bipush 10, 2) := by decide +kernel
theorem dX0_stir_75 : decode cX0_stir 75 = .ok (.irem, 1) := by decide +kernel
theorem dX0_stir_76 : decode cX0_stir 76 = .ok (.invokevirtual 147, 3) := by decide +kernel
theorem dX0_stir_79 : decode cX0_stir 79 = .ok (.return_, 1) := by decide +kernel
abbrev x_X0_stir (E : mh_E) (d mc ms : Nat) (Post : Option Value → mh_H → Prop) : mh_X := (E, yX0_stir, cX0_stir, 2, none, d, mc, ms, Post)
def q_X0_stir_79 (X : mh_X) : mh_PR := s_vret X
theorem b_X0_stir_79 {E : mh_E} {d mc ms : Nat} {Post : Option Value → mh_H → Prop} : mh_S (x_X0_stir E d mc ms Post) 79 (q_X0_stir_79 (x_X0_stir E d mc ms Post)) := sn_vret rfl dX0_stir_79
def q_X0_stir_36 (X : mh_X) : mh_PR := s_al 0 (s_cv X yX0_draw 0 0 (s_push (.int (100)) (s_div mh_rem (s_al 0 (s_gi 0 5 (s_if2 (fun x y => y ≤ x) (q_X0_stir_79 X) (s_al 0 (s_cv X yX0_draw 0 0 (s_push (.int (6)) (s_div mh_rem (s_is 1 (s_al 0 (s_gr 0 0 (s_il 1 (s_al 0 (s_gr 0 0 (s_il 1 (s_cv X yX3_rankOf 3 1 (s_push (.int (1)) (s_bin (fun x y => x + y) (s_push (.int (10)) (s_div mh_rem (s_cv X yX3_promote 3 2 (q_X0_stir_79 X))))))))))))))))))))))))
theorem b_X0_stir_36 {E : mh_E} {d mc ms : Nat} {Post : Option Value → mh_H → Prop} : mh_S (x_X0_stir E d mc ms Post) 36 (q_X0_stir_36 (x_X0_stir E d mc ms Post)) := sn_aload_n dX0_stir_36 rfl (sn_cv w_555 w_556 w_557 w_57 rfl nm_X0_draw dX0_stir_37 (sn_bipush dX0_stir_40 (by decide) (sn_irem dX0_stir_42 (sn_aload_n dX0_stir_43 rfl (sn_geti clX0 (by decide) w_187 dX0_stir_44 (sn_icmp_ge (tgt := 79) dX0_stir_47 (by decide) (b_X0_stir_79) (sn_aload_n dX0_stir_50 rfl (sn_cv w_555 w_556 w_557 w_57 rfl nm_X0_draw dX0_stir_51 (sn_bipush dX0_stir_54 (by decide) (sn_irem dX0_stir_56 (sn_istore_n dX0_stir_57 rfl (Nat.le_of_ble_eq_true rfl) (sn_aload_n dX0_stir_58 rfl (sn_getr clX0 (by decide) w_174 dX0_stir_59 (sn_iload_n dX0_stir_62 rfl (sn_aload_n dX0_stir_63 rfl (sn_getr clX0 (by decide) w_174 dX0_stir_64 (sn_iload_n dX0_stir_67 rfl (sn_cv w_579 w_522 w_523 w_58 rfl nm_X3_rankOf dX0_stir_68 (sn_iconst dX0_stir_71 (by decide) (sn_iadd dX0_stir_72 (sn_bipush dX0_stir_73 (by decide) (sn_irem dX0_stir_75 (sn_cv w_580 w_535 w_536 w_58 rfl nm_X3_promote dX0_stir_76 b_X0_stir_79)))))))))))))))))))))))
def q_X0_stir_0 (X : mh_X) : mh_PR := s_al 0 (s_cv X yX0_draw 0 0 (s_push (.int (100)) (s_div mh_rem (s_al 0 (s_gi 0 4 (s_if2 (fun x y => y ≤ x) (q_X0_stir_36 X) (s_al 0 (s_cv X yX0_draw 0 0 (s_push (.int (6)) (s_div mh_rem (s_is 1 (s_al 0 (s_gr 0 0 (s_il 1 (s_al 0 (s_cv X yX0_draw 0 0 (s_push (.int (4)) (s_div mh_rem (s_cv X yX3_move 3 2 (q_X0_stir_36 X))))))))))))))))))))
theorem b_X0_stir_0 {E : mh_E} {d mc ms : Nat} {Post : Option Value → mh_H → Prop} : mh_S (x_X0_stir E d mc ms Post) 0 (q_X0_stir_0 (x_X0_stir E d mc ms Post)) := sn_aload_n dX0_stir_0 rfl (sn_cv w_555 w_556 w_557 w_57 rfl nm_X0_draw dX0_stir_1 (sn_bipush dX0_stir_4 (by decide) (sn_irem dX0_stir_6 (sn_aload_n dX0_stir_7 rfl (sn_geti clX0 (by decide) w_185 dX0_stir_8 (sn_icmp_ge (tgt := 36) dX0_stir_11 (by decide) (b_X0_stir_36) (sn_aload_n dX0_stir_14 rfl (sn_cv w_555 w_556 w_557 w_57 rfl nm_X0_draw dX0_stir_15 (sn_bipush dX0_stir_18 (by decide) (sn_irem dX0_stir_20 (sn_istore_n dX0_stir_21 rfl (Nat.le_of_ble_eq_true rfl) (sn_aload_n dX0_stir_22 rfl (sn_getr clX0 (by decide) w_174 dX0_stir_23 (sn_iload_n dX0_stir_26 rfl (sn_aload_n dX0_stir_27 rfl (sn_cv w_555 w_556 w_557 w_57 rfl nm_X0_draw dX0_stir_28 (sn_iconst dX0_stir_31 (by decide) (sn_irem dX0_stir_32 (sn_cv w_578 w_531 w_532 w_58 rfl nm_X3_move dX0_stir_33 b_X0_stir_36)))))))))))))))))))
theorem m_X0_stir {E : mh_E} {d mc ms : Nat} {args : List Value} {h : mh_H} {Post : Option Value → mh_H → Prop} (lv : List (Option Value)) (hl : lv_args 0 args = mh_al 0 lv) (hs : (lg_sl args).length ≤ 2) (hG : q_X0_stir_0 (x_X0_stir E d mc ms Post) lv [] h 0 0) : mh_M E d mc ms yX0_stir args h Post := mh_M.of w_577 (by decide) (by decide) hl hs (b_X0_stir_0 _ _ _ _ _ hG)
theorem dX0_fulfil_0 : decode cX0_fulfil 0 = .ok (.iconst 0, 1) := by decide +kernel
theorem dX0_fulfil_1 : decode cX0_fulfil 1 = .ok (.istore_n 1, 1) := by decide +kernel
theorem dX0_fulfil_2 : decode cX0_fulfil 2 = .ok (.iconst 0, 1) := by decide +kernel
theorem dX0_fulfil_3 : decode cX0_fulfil 3 = .ok (.istore_n 2, 1) := by decide +kernel
theorem dX0_fulfil_4 : decode cX0_fulfil 4 = .ok (.iload_n 2, 1) := by decide +kernel
theorem dX0_fulfil_5 : decode cX0_fulfil 5 = .ok (.aload_n 0, 1) := by decide +kernel
theorem dX0_fulfil_6 : decode cX0_fulfil 6 = .ok (.getfield 31, 3) := by decide +kernel
theorem dX0_fulfil_9 : decode cX0_fulfil 9 = .ok (.if_icmp .ge 59, 3) := by decide +kernel
theorem dX0_fulfil_12 : decode cX0_fulfil 12 = .ok (.iload_n 2, 1) := by decide +kernel
theorem dX0_fulfil_13 : decode cX0_fulfil 13 = .ok (.bipush 10, 2) := by decide +kernel
theorem dX0_fulfil_15 : decode cX0_fulfil 15 = .ok (.if_icmp .ge 53, 3) := by decide +kernel
theorem dX0_fulfil_18 : decode cX0_fulfil 18 = .ok (.aload_n 0, 1) := by decide +kernel
theorem dX0_fulfil_19 : decode cX0_fulfil 19 = .ok (.getfield 20, 3) := by decide +kernel
theorem dX0_fulfil_22 : decode cX0_fulfil 22 = .ok (.iload_n 2, 1) := by decide +kernel
theorem dX0_fulfil_23 : decode cX0_fulfil 23 = .ok (.aaload, 1) := by decide +kernel
theorem dX0_fulfil_24 : decode cX0_fulfil 24 = .ok (.astore_n 3, 1) := by decide +kernel
theorem dX0_fulfil_25 : decode cX0_fulfil 25 = .ok (.aload_n 3, 1) := by decide +kernel
theorem dX0_fulfil_26 : decode cX0_fulfil 26 = .ok (.invokevirtual 150, 3) := by decide +kernel
theorem dX0_fulfil_29 : decode cX0_fulfil 29 = .ok (.ifCond .ne 33, 3) := by decide +kernel
theorem dX0_fulfil_32 : decode cX0_fulfil 32 = .ok (.aload_n 0, 1) := by decide +kernel
theorem dX0_fulfil_33 : decode cX0_fulfil 33 = .ok (.getfield 47, 3) := by decide +kernel
theorem dX0_fulfil_36 : decode cX0_fulfil 36 = .ok (.aload_n 3, 1) := by decide +kernel
theorem dX0_fulfil_37 : decode cX0_fulfil 37 = .ok (.getfield 77, 3) := by decide +kernel
theorem dX0_fulfil_40 : decode cX0_fulfil 40 = .ok (.if_icmp .gt 22, 3) := by decide +kernel
theorem dX0_fulfil_43 : decode cX0_fulfil 43 = .ok (.aload_n 0, 1) := by decide +kernel
theorem dX0_fulfil_44 : decode cX0_fulfil 44 = .ok (.aload_n 3, 1) := by decide +kernel
theorem dX0_fulfil_45 : decode cX0_fulfil 45 = .ok (.invokevirtual 154, 3) := by decide +kernel
theorem dX0_fulfil_48 : decode cX0_fulfil 48 = .ok (.ifCond .eq 14, 3) := by decide +kernel
theorem dX0_fulfil_51 : decode cX0_fulfil 51 = .ok (.aload_n 3, 1) := by decide +kernel
theorem dX0_fulfil_52 : decode cX0_fulfil 52 = .ok (.aload_n 0, 1) := by decide +kernel
theorem dX0_fulfil_53 : decode cX0_fulfil 53 = .ok (.getfield 47, 3) := by decide +kernel
theorem dX0_fulfil_56 : decode cX0_fulfil 56 = .ok (.putfield 81, 3) := by decide +kernel
theorem dX0_fulfil_59 : decode cX0_fulfil 59 = .ok (.iinc 1 1, 3) := by decide +kernel
theorem dX0_fulfil_62 : decode cX0_fulfil 62 = .ok (.iinc 2 1, 3) := by decide +kernel
theorem dX0_fulfil_65 : decode cX0_fulfil 65 = .ok (.goto (-61), 3) := by decide +kernel
theorem dX0_fulfil_68 : decode cX0_fulfil 68 = .ok (.iload_n 1, 1) := by decide +kernel
theorem dX0_fulfil_69 : decode cX0_fulfil 69 = .ok (.ireturn, 1) := by decide +kernel
abbrev x_X0_fulfil (E : mh_E) (d mc ms : Nat) (Post : Option Value → mh_H → Prop) : mh_X := (E, yX0_fulfil, cX0_fulfil, 4, (some .int), d, mc, ms, Post)
def q_X0_fulfil_68 (X : mh_X) : mh_PR := s_il 1 (s_iret X)
theorem b_X0_fulfil_68 {E : mh_E} {d mc ms : Nat} {Post : Option Value → mh_H → Prop} : mh_S (x_X0_fulfil E d mc ms Post) 68 (q_X0_fulfil_68 (x_X0_fulfil E d mc ms Post)) := sn_iload_n dX0_fulfil_68 rfl (sn_iret rfl dX0_fulfil_69)
def q_X0_fulfil_62 (X : mh_X) : mh_PR := s_inc 2 (1) (mh_G X 4)
theorem b_X0_fulfil_62 {E : mh_E} {d mc ms : Nat} {Post : Option Value → mh_H → Prop} : mh_S (x_X0_fulfil E d mc ms Post) 62 (q_X0_fulfil_62 (x_X0_fulfil E d mc ms Post)) := sn_iinc dX0_fulfil_62 (by decide) (Nat.le_of_ble_eq_true rfl) (sn_goto (tgt := 4) dX0_fulfil_65 (by decide) (mh_S.G))
def q_X0_fulfil_4 (X : mh_X) : mh_PR := s_il 2 (s_al 0 (s_gi 0 3 (s_if2 (fun x y => y ≤ x) (q_X0_fulfil_68 X) (s_il 2 (s_push (.int (10)) (s_if2 (fun x y => y ≤ x) (q_X0_fulfil_68 X) (s_al 0 (s_gr 0 1 (s_il 2 (s_aald 6 (s_as 3 (s_al 3 (s_cv X yX6_isFulfilled 6 0 (s_if1 (fun x => ¬ x = 0) (q_X0_fulfil_62 X) (s_al 0 (s_gi 0 8 (s_al 3 (s_gi 6 4 (s_if2 (fun x y => y < x) (q_X0_fulfil_62 X) (s_al 0 (s_al 3 (s_cv X yX0_holds 0 1 (s_if1 (fun x => x = 0) (q_X0_fulfil_62 X) (s_al 3 (s_al 0 (s_gi 0 8 (s_pi 6 5 (s_inc 1 (1) (q_X0_fulfil_62 X)))))))))))))))))))))))))))))
theorem b_X0_fulfil_4 {E : mh_E} {d mc ms : Nat} {Post : Option Value → mh_H → Prop} : mh_S (x_X0_fulfil E d mc ms Post) 4 (q_X0_fulfil_4 (x_X0_fulfil E d mc ms Post)) := sn_iload_n dX0_fulfil_4 rfl (sn_aload_n dX0_fulfil_5 rfl (sn_geti clX0 (by decide) w_182 dX0_fulfil_6 (sn_icmp_ge (tgt := 68) dX0_fulfil_9 (by decide) (b_X0_fulfil_68) (sn_iload_n dX0_fulfil_12 rfl (sn_bipush dX0_fulfil_13 (by decide) (sn_icmp_ge (tgt := 68) dX0_fulfil_15 (by decide) (b_X0_fulfil_68) (sn_aload_n dX0_fulfil_18 rfl (sn_getr clX0 (by decide) w_177 dX0_fulfil_19 (sn_iload_n dX0_fulfil_22 rfl (sn_aaload (by decide) rfl dX0_fulfil_23 (sn_astore_n dX0_fulfil_24 rfl (Nat.le_of_ble_eq_true rfl) (sn_aload_n dX0_fulfil_25 rfl (sn_cv w_585 w_507 w_508 w_61 rfl nm_X6_isFulfilled dX0_fulfil_26 (sn_if_ne (tgt := 62) dX0_fulfil_29 (by decide) (b_X0_fulfil_62) (sn_aload_n dX0_fulfil_32 rfl (sn_geti clX0 (by decide) w_193 dX0_fulfil_33 (sn_aload_n dX0_fulfil_36 rfl (sn_geti clX6 (by decide) w_156 dX0_fulfil_37 (sn_icmp_gt (tgt := 62) dX0_fulfil_40 (by decide) (b_X0_fulfil_62) (sn_aload_n dX0_fulfil_43 rfl (sn_aload_n dX0_fulfil_44 rfl (sn_cv w_586 w_403 w_404 w_57 rfl nm_X0_holds dX0_fulfil_45 (sn_if_eq (tgt := 62) dX0_fulfil_48 (by decide) (b_X0_fulfil_62) (sn_aload_n dX0_fulfil_51 rfl (sn_aload_n dX0_fulfil_52 rfl (sn_geti clX0 (by decide) w_193 dX0_fulfil_53 (sn_puti clX6 (by decide) w_159 rfl rfl dX0_fulfil_56 (sn_iinc dX0_fulfil_59 (by decide) (Nat.le_of_ble_eq_true rfl) b_X0_fulfil_62))))))))))))))))))))))))))))
def q_X0_fulfil_0 (X : mh_X) : mh_PR := s_push (.int (0)) (s_is 1 (s_push (.int (0)) (s_is 2 (mh_G X 4))))
theorem b_X0_fulfil_0 {E : mh_E} {d mc ms : Nat} {Post : Option Value → mh_H → Prop} : mh_S (x_X0_fulfil E d mc ms Post) 0 (q_X0_fulfil_0 (x_X0_fulfil E d mc ms Post)) := sn_iconst dX0_fulfil_0 (by decide) (sn_istore_n dX0_fulfil_1 rfl (Nat.le_of_ble_eq_true rfl) (sn_iconst dX0_fulfil_2 (by decide) (sn_istore_n dX0_fulfil_3 rfl (Nat.le_of_ble_eq_true rfl) mh_S.G)))
theorem m_X0_fulfil {E : mh_E} {d mc ms : Nat} {args : List Value} {h : mh_H} {Post : Option Value → mh_H → Prop} (lv : List (Option Value)) (hl : lv_args 0 args = mh_al 0 lv) (hs : (lg_sl args).length ≤ 4) (hG : q_X0_fulfil_0 (x_X0_fulfil E d mc ms Post) lv [] h 0 0) : mh_M E d mc ms yX0_fulfil args h Post := mh_M.of w_584 (by decide) (by decide) hl hs (b_X0_fulfil_0 _ _ _ _ _ hG)
theorem dX0_pay_0 : decode cX0_pay 0 = .ok (.iconst 0, 1) := by decide +kernel
theorem dX0_pay_1 : decode cX0_pay 1 = .ok (.istore_n 1, 1) := by decide +kernel
theorem dX0_pay_2 : decode cX0_pay 2 = .ok (.iload_n 1, 1) := by decide +kernel
theorem dX0_pay_3 : decode cX0_pay 3 = .ok (.aload_n 0, 1) := by decide +kernel
theorem dX0_pay_4 : decode cX0_pay 4 = .ok (.getfield 31, 3) := by decide +kernel
theorem dX0_pay_7 : decode cX0_pay 7 = .ok (.if_icmp .ge 68, 3) := by decide +kernel
theorem dX0_pay_10 : decode cX0_pay 10 = .ok (.iload_n 1, 1) := by decide +kernel
theorem dX0_pay_11 : decode cX0_pay 11 = .ok (.bipush 10, 2) := by decide +kernel
theorem dX0_pay_13 : decode cX0_pay 13 = .ok (.if_icmp .ge 62, 3) := by decide +kernel
theorem dX0_pay_16 : decode cX0_pay 16 = .ok (.aload_n 0, 1) := by decide +kernel
theorem dX0_pay_17 : decode cX0_pay 17 = .ok (.getfield 20, 3) := by decide +kernel
theorem dX0_pay_20 : decode cX0_pay 20 = .ok (.iload_n 1, 1) := by decide +kernel
theorem dX0_pay_21 : decode cX0_pay 21 = .ok (.aaload, 1) := by decide +kernel
theorem dX0_pay_22 : decode cX0_pay 22 = .ok (.astore_n 2, 1) := by decide +kernel
theorem dX0_pay_23 : decode cX0_pay 23 = .ok (.aload_n 2, 1) := by decide +kernel
theorem dX0_pay_24 : decode cX0_pay 24 = .ok (.invokevirtual 150, 3) := by decide +kernel
theorem dX0_pay_27 : decode cX0_pay 27 = .ok (.ifCond .ne 42, 3) := by decide +kernel
theorem dX0_pay_30 : decode cX0_pay 30 = .ok (.aload_n 0, 1) := by decide +kernel
theorem dX0_pay_31 : decode cX0_pay 31 = .ok (.dup, 1) := by decide +kernel
theorem dX0_pay_32 : decode cX0_pay 32 = .ok (.getfield 41, 3) := by decide +kernel
theorem dX0_pay_35 : decode cX0_pay 35 = .ok (.aload_n 0, 1) := by decide +kernel
theorem dX0_pay_36 : decode cX0_pay 36 = .ok (.aload_n 2, 1) := by decide +kernel
theorem dX0_pay_37 : decode cX0_pay 37 = .ok (.invokevirtual 158, 3) := by decide +kernel
theorem dX0_pay_40 : decode cX0_pay 40 = .ok (.iadd, 1) := by decide +kernel
theorem dX0_pay_41 : decode cX0_pay 41 = .ok (.putfield 41, 3) := by decide +kernel
theorem dX0_pay_44 : decode cX0_pay 44 = .ok (.aload_n 0, 1) := by decide +kernel
theorem dX0_pay_45 : decode cX0_pay 45 = .ok (.dup, 1) := by decide +kernel
theorem dX0_pay_46 : decode cX0_pay 46 = .ok (.getfield 44, 3) := by decide +kernel
theorem dX0_pay_49 : decode cX0_pay 49 = .ok (.aload_n 0, 1) := by decide +kernel
theorem dX0_pay_50 : decode cX0_pay 50 = .ok (.getfield 47, 3) := by decide +kernel
theorem dX0_pay_53 : decode cX0_pay 53 = .ok (.aload_n 2, 1) := by decide +kernel
theorem dX0_pay_54 : decode cX0_pay 54 = .ok (.getfield 77, 3) := by decide +kernel
theorem dX0_pay_57 : decode cX0_pay 57 = .ok (.if_icmp .ne 7, 3) := by decide +kernel
theorem dX0_pay_60 : decode cX0_pay 60 = .ok (.iconst 1, 1) := by decide +kernel
theorem dX0_pay_61 : decode cX0_pay 61 = .ok (.goto 4, 3) := by decide +kernel
theorem dX0_pay_64 : decode cX0_pay 64 = .ok (.iconst 0, 1) := by decide +kernel
theorem dX0_pay_65 : decode cX0_pay 65 = .ok (.iadd, 1) := by decide +kernel
theorem dX0_pay_66 : decode cX0_pay 66 = .ok (.putfield 44, 3) := by decide +kernel
theorem dX0_pay_69 : decode cX0_pay 69 = .ok (.iinc 1 1, 3) := by decide +kernel
theorem dX0_pay_72 : decode cX0_pay 72 = .ok (.goto (-70), 3) := by decide +kernel
theorem dX0_pay_75 : decode cX0_pay 75 = .ok (.return_, 1) := by decide +kernel
abbrev x_X0_pay (E : mh_E) (d mc ms : Nat) (Post : Option Value → mh_H → Prop) : mh_X := (E, yX0_pay, cX0_pay, 3, none, d, mc, ms, Post)
def q_X0_pay_75 (X : mh_X) : mh_PR := s_vret X
theorem b_X0_pay_75 {E : mh_E} {d mc ms : Nat} {Post : Option Value → mh_H → Prop} : mh_S (x_X0_pay E d mc ms Post) 75 (q_X0_pay_75 (x_X0_pay E d mc ms Post)) := sn_vret rfl dX0_pay_75
def q_X0_pay_69 (X : mh_X) : mh_PR := s_inc 1 (1) (mh_G X 2)
theorem b_X0_pay_69 {E : mh_E} {d mc ms : Nat} {Post : Option Value → mh_H → Prop} : mh_S (x_X0_pay E d mc ms Post) 69 (q_X0_pay_69 (x_X0_pay E d mc ms Post)) := sn_iinc dX0_pay_69 (by decide) (Nat.le_of_ble_eq_true rfl) (sn_goto (tgt := 2) dX0_pay_72 (by decide) (mh_S.G))
def q_X0_pay_65 (X : mh_X) : mh_PR := s_bin (fun x y => x + y) (s_pi 0 7 (q_X0_pay_69 X))
theorem b_X0_pay_65 {E : mh_E} {d mc ms : Nat} {Post : Option Value → mh_H → Prop} : mh_S (x_X0_pay E d mc ms Post) 65 (q_X0_pay_65 (x_X0_pay E d mc ms Post)) := sn_iadd dX0_pay_65 (sn_puti clX0 (by decide) w_191 rfl rfl dX0_pay_66 b_X0_pay_69)
def q_X0_pay_2 (X : mh_X) : mh_PR := s_il 1 (s_al 0 (s_gi 0 3 (s_if2 (fun x y => y ≤ x) (q_X0_pay_75 X) (s_il 1 (s_push (.int (10)) (s_if2 (fun x y => y ≤ x) (q_X0_pay_75 X) (s_al 0 (s_gr 0 1 (s_il 1 (s_aald 6 (s_as 2 (s_al 2 (s_cv X yX6_isFulfilled 6 0 (s_if1 (fun x => ¬ x = 0) (q_X0_pay_69 X) (s_al 0 (s_dup (s_gi 0 6 (s_al 0 (s_al 2 (s_cv X yX0_keeps 0 1 (s_bin (fun x y => x + y) (s_pi 0 6 (s_al 0 (s_dup (s_gi 0 7 (s_al 0 (s_gi 0 8 (s_al 2 (s_gi 6 4 (s_if2 (fun x y => ¬ x = y) (s_push (.int (0)) (q_X0_pay_65 X)) (s_push (.int (1)) (q_X0_pay_65 X))))))))))))))))))))))))))))))))
theorem b_X0_pay_2 {E : mh_E} {d mc ms : Nat} {Post : Option Value → mh_H → Prop} : mh_S (x_X0_pay E d mc ms Post) 2 (q_X0_pay_2 (x_X0_pay E d mc ms Post)) := sn_iload_n dX0_pay_2 rfl (sn_aload_n dX0_pay_3 rfl (sn_geti clX0 (by decide) w_182 dX0_pay_4 (sn_icmp_ge (tgt := 75) dX0_pay_7 (by decide) (b_X0_pay_75) (sn_iload_n dX0_pay_10 rfl (sn_bipush dX0_pay_11 (by decide) (sn_icmp_ge (tgt := 75) dX0_pay_13 (by decide) (b_X0_pay_75) (sn_aload_n dX0_pay_16 rfl (sn_getr clX0 (by decide) w_177 dX0_pay_17 (sn_iload_n dX0_pay_20 rfl (sn_aaload (by decide) rfl dX0_pay_21 (sn_astore_n dX0_pay_22 rfl (Nat.le_of_ble_eq_true rfl) (sn_aload_n dX0_pay_23 rfl (sn_cv w_585 w_507 w_508 w_61 rfl nm_X6_isFulfilled dX0_pay_24 (sn_if_ne (tgt := 69) dX0_pay_27 (by decide) (b_X0_pay_69) (sn_aload_n dX0_pay_30 rfl (sn_dup dX0_pay_31 (sn_geti clX0 (by decide) w_189 dX0_pay_32 (sn_aload_n dX0_pay_35 rfl (sn_aload_n dX0_pay_36 rfl (sn_cv w_591 w_421 w_422 w_57 rfl nm_X0_keeps dX0_pay_37 (sn_iadd dX0_pay_40 (sn_puti clX0 (by decide) w_189 rfl rfl dX0_pay_41 (sn_aload_n dX0_pay_44 rfl (sn_dup dX0_pay_45 (sn_geti clX0 (by decide) w_191 dX0_pay_46 (sn_aload_n dX0_pay_49 rfl (sn_geti clX0 (by decide) w_193 dX0_pay_50 (sn_aload_n dX0_pay_53 rfl (sn_geti clX6 (by decide) w_156 dX0_pay_54 (sn_icmp_ne (tgt := 64) dX0_pay_57 (by decide) (sn_iconst dX0_pay_64 (by decide) b_X0_pay_65) (sn_iconst dX0_pay_60 (by decide) (sn_goto (tgt := 65) dX0_pay_61 (by decide) (b_X0_pay_65)))))))))))))))))))))))))))))))))
def q_X0_pay_0 (X : mh_X) : mh_PR := s_push (.int (0)) (s_is 1 (mh_G X 2))
theorem b_X0_pay_0 {E : mh_E} {d mc ms : Nat} {Post : Option Value → mh_H → Prop} : mh_S (x_X0_pay E d mc ms Post) 0 (q_X0_pay_0 (x_X0_pay E d mc ms Post)) := sn_iconst dX0_pay_0 (by decide) (sn_istore_n dX0_pay_1 rfl (Nat.le_of_ble_eq_true rfl) mh_S.G)
theorem m_X0_pay {E : mh_E} {d mc ms : Nat} {args : List Value} {h : mh_H} {Post : Option Value → mh_H → Prop} (lv : List (Option Value)) (hl : lv_args 0 args = mh_al 0 lv) (hs : (lg_sl args).length ≤ 3) (hG : q_X0_pay_0 (x_X0_pay E d mc ms Post) lv [] h 0 0) : mh_M E d mc ms yX0_pay args h Post := mh_M.of w_590 (by decide) (by decide) hl hs (b_X0_pay_0 _ _ _ _ _ hG)
theorem dX0_fulfilledSet_0 : decode cX0_fulfilledSet 0 = .ok (.iconst 0, 1) := by decide +kernel
theorem dX0_fulfilledSet_1 : decode cX0_fulfilledSet 1 = .ok (.istore_n 1, 1) := by decide +kernel
theorem dX0_fulfilledSet_2 : decode cX0_fulfilledSet 2 = .ok (.iconst 0, 1) := by decide +kernel
theorem dX0_fulfilledSet_3 : decode cX0_fulfilledSet 3 = .ok (.istore_n 2, 1) := by decide +kernel
theorem dX0_fulfilledSet_4 : decode cX0_fulfilledSet 4 = .ok (.iload_n 2, 1) := by decide +kernel
theorem dX0_fulfilledSet_5 : decode cX0_fulfilledSet 5 = .ok (.aload_n 0, 1) := by decide +kernel
theorem dX0_fulfilledSet_6 : decode cX0_fulfilledSet 6 = .ok (.getfield 31, 3) := by decide +kernel
theorem dX0_fulfilledSet_9 : decode cX0_fulfilledSet 9 = .ok (.if_icmp .ge 37, 3) := by decide +kernel
theorem dX0_fulfilledSet_12 : decode cX0_fulfilledSet 12 = .ok (.iload_n 2, 1) := by decide +kernel
theorem dX0_fulfilledSet_13 : decode cX0_fulfilledSet 13 = .ok (.bipush 10, 2) := by decide +kernel
theorem dX0_fulfilledSet_15 : decode cX0_fulfilledSet 15 = .ok (.if_icmp .ge 31, 3) := by decide +kernel
theorem dX0_fulfilledSet_18 : decode cX0_fulfilledSet 18 = .ok (.iload_n 1, 1) := by decide +kernel
theorem dX0_fulfilledSet_19 : decode cX0_fulfilledSet 19 = .ok (.aload_n 0, 1) := by decide +kernel
theorem dX0_fulfilledSet_20 : decode cX0_fulfilledSet 20 = .ok (.getfield 20, 3) := by decide +kernel
theorem dX0_fulfilledSet_23 : decode cX0_fulfilledSet 23 = .ok (.iload_n 2, 1) := by decide +kernel
theorem dX0_fulfilledSet_24 : decode cX0_fulfilledSet 24 = .ok (.aaload, 1) := by decide +kernel
theorem dX0_fulfilledSet_25 : decode cX0_fulfilledSet 25 = .ok (.invokevirtual 150, 3) := by decide +kernel
theorem dX0_fulfilledSet_28 : decode cX0_fulfilledSet 28 = .ok (.ifCond .eq 9, 3) := by decide +kernel
theorem dX0_fulfilledSet_31 : decode cX0_fulfilledSet 31 = .ok (.iconst 1, 1) := by decide +kernel
theorem dX0_fulfilledSet_32 : decode cX0_fulfilledSet 32 = .ok (.iload_n 2, 1) := by decide +kernel
theorem dX0_fulfilledSet_33 : decode cX0_fulfilledSet 33 = .ok (.ishl, 1) := by decide +kernel
theorem dX0_fulfilledSet_34 : decode cX0_fulfilledSet 34 = .ok (.goto 4, 3) := by decide +kernel
theorem dX0_fulfilledSet_37 : decode cX0_fulfilledSet 37 = .ok (.iconst 0, 1) := by decide +kernel
theorem dX0_fulfilledSet_38 : decode cX0_fulfilledSet 38 = .ok (.ior, 1) := by decide +kernel
theorem dX0_fulfilledSet_39 : decode cX0_fulfilledSet 39 = .ok (.istore_n 1, 1) := by decide +kernel
theorem dX0_fulfilledSet_40 : decode cX0_fulfilledSet 40 = .ok (.iinc 2 1, 3) := by decide +kernel
theorem dX0_fulfilledSet_43 : decode cX0_fulfilledSet 43 = .ok (.goto (-39), 3) := by decide +kernel
theorem dX0_fulfilledSet_46 : decode cX0_fulfilledSet 46 = .ok (.iload_n 1, 1) := by decide +kernel
theorem dX0_fulfilledSet_47 : decode cX0_fulfilledSet 47 = .ok (.ireturn, 1) := by decide +kernel
abbrev x_X0_fulfilledSet (E : mh_E) (d mc ms : Nat) (Post : Option Value → mh_H → Prop) : mh_X := (E, yX0_fulfilledSet, cX0_fulfilledSet, 3, (some .int), d, mc, ms, Post)
def q_X0_fulfilledSet_46 (X : mh_X) : mh_PR := s_il 1 (s_iret X)
theorem b_X0_fulfilledSet_46 {E : mh_E} {d mc ms : Nat} {Post : Option Value → mh_H → Prop} : mh_S (x_X0_fulfilledSet E d mc ms Post) 46 (q_X0_fulfilledSet_46 (x_X0_fulfilledSet E d mc ms Post)) := sn_iload_n dX0_fulfilledSet_46 rfl (sn_iret rfl dX0_fulfilledSet_47)
def q_X0_fulfilledSet_38 (X : mh_X) : mh_PR := s_bin (fun x y => x ||| y) (s_is 1 (s_inc 2 (1) (mh_G X 4)))
theorem b_X0_fulfilledSet_38 {E : mh_E} {d mc ms : Nat} {Post : Option Value → mh_H → Prop} : mh_S (x_X0_fulfilledSet E d mc ms Post) 38 (q_X0_fulfilledSet_38 (x_X0_fulfilledSet E d mc ms Post)) := sn_ior dX0_fulfilledSet_38 (sn_istore_n dX0_fulfilledSet_39 rfl (Nat.le_of_ble_eq_true rfl) (sn_iinc dX0_fulfilledSet_40 (by decide) (Nat.le_of_ble_eq_true rfl) (sn_goto (tgt := 4) dX0_fulfilledSet_43 (by decide) (mh_S.G))))
def q_X0_fulfilledSet_4 (X : mh_X) : mh_PR := s_il 2 (s_al 0 (s_gi 0 3 (s_if2 (fun x y => y ≤ x) (q_X0_fulfilledSet_46 X) (s_il 2 (s_push (.int (10)) (s_if2 (fun x y => y ≤ x) (q_X0_fulfilledSet_46 X) (s_il 1 (s_al 0 (s_gr 0 1 (s_il 2 (s_aald 6 (s_cv X yX6_isFulfilled 6 0 (s_if1 (fun x => x = 0) (s_push (.int (0)) (q_X0_fulfilledSet_38 X)) (s_push (.int (1)) (s_il 2 (s_bin mh_shl (q_X0_fulfilledSet_38 X)))))))))))))))))
theorem b_X0_fulfilledSet_4 {E : mh_E} {d mc ms : Nat} {Post : Option Value → mh_H → Prop} : mh_S (x_X0_fulfilledSet E d mc ms Post) 4 (q_X0_fulfilledSet_4 (x_X0_fulfilledSet E d mc ms Post)) := sn_iload_n dX0_fulfilledSet_4 rfl (sn_aload_n dX0_fulfilledSet_5 rfl (sn_geti clX0 (by decide) w_182 dX0_fulfilledSet_6 (sn_icmp_ge (tgt := 46) dX0_fulfilledSet_9 (by decide) (b_X0_fulfilledSet_46) (sn_iload_n dX0_fulfilledSet_12 rfl (sn_bipush dX0_fulfilledSet_13 (by decide) (sn_icmp_ge (tgt := 46) dX0_fulfilledSet_15 (by decide) (b_X0_fulfilledSet_46) (sn_iload_n dX0_fulfilledSet_18 rfl (sn_aload_n dX0_fulfilledSet_19 rfl (sn_getr clX0 (by decide) w_177 dX0_fulfilledSet_20 (sn_iload_n dX0_fulfilledSet_23 rfl (sn_aaload (by decide) rfl dX0_fulfilledSet_24 (sn_cv w_585 w_507 w_508 w_61 rfl nm_X6_isFulfilled dX0_fulfilledSet_25 (sn_if_eq (tgt := 37) dX0_fulfilledSet_28 (by decide) (sn_iconst dX0_fulfilledSet_37 (by decide) b_X0_fulfilledSet_38) (sn_iconst dX0_fulfilledSet_31 (by decide) (sn_iload_n dX0_fulfilledSet_32 rfl (sn_ishl dX0_fulfilledSet_33 (sn_goto (tgt := 38) dX0_fulfilledSet_34 (by decide) (b_X0_fulfilledSet_38))))))))))))))))))
def q_X0_fulfilledSet_0 (X : mh_X) : mh_PR := s_push (.int (0)) (s_is 1 (s_push (.int (0)) (s_is 2 (mh_G X 4))))
theorem b_X0_fulfilledSet_0 {E : mh_E} {d mc ms : Nat} {Post : Option Value → mh_H → Prop} : mh_S (x_X0_fulfilledSet E d mc ms Post) 0 (q_X0_fulfilledSet_0 (x_X0_fulfilledSet E d mc ms Post)) := sn_iconst dX0_fulfilledSet_0 (by decide) (sn_istore_n dX0_fulfilledSet_1 rfl (Nat.le_of_ble_eq_true rfl) (sn_iconst dX0_fulfilledSet_2 (by decide) (sn_istore_n dX0_fulfilledSet_3 rfl (Nat.le_of_ble_eq_true rfl) mh_S.G)))
theorem m_X0_fulfilledSet {E : mh_E} {d mc ms : Nat} {args : List Value} {h : mh_H} {Post : Option Value → mh_H → Prop} (lv : List (Option Value)) (hl : lv_args 0 args = mh_al 0 lv) (hs : (lg_sl args).length ≤ 3) (hG : q_X0_fulfilledSet_0 (x_X0_fulfilledSet E d mc ms Post) lv [] h 0 0) : mh_M E d mc ms yX0_fulfilledSet args h Post := mh_M.of w_599 (by decide) (by decide) hl hs (b_X0_fulfilledSet_0 _ _ _ _ _ hG)
theorem dX0_openSet_0 : decode cX0_openSet 0 = .ok (.iconst 0, 1) := by decide +kernel
theorem dX0_openSet_1 : decode cX0_openSet 1 = .ok (.istore_n 1, 1) := by decide +kernel
theorem dX0_openSet_2 : decode cX0_openSet 2 = .ok (.iconst 0, 1) := by decide +kernel
theorem dX0_openSet_3 : decode cX0_openSet 3 = .ok (.istore_n 2, 1) := by decide +kernel
theorem dX0_openSet_4 : decode cX0_openSet 4 = .ok (.iload_n 2, 1) := by decide +kernel
theorem dX0_openSet_5 : decode cX0_openSet 5 = .ok (.aload_n 0, 1) := by decide +kernel
theorem dX0_openSet_6 : decode cX0_openSet 6 = .ok (.getfield 31, 3) := by decide +kernel
theorem dX0_openSet_9 : decode cX0_openSet 9 = .ok (.if_icmp .ge 53, 3) := by decide +kernel
theorem dX0_openSet_12 : decode cX0_openSet 12 = .ok (.iload_n 2, 1) := by decide +kernel
theorem dX0_openSet_13 : decode cX0_openSet 13 = .ok (.bipush 10, 2) := by decide +kernel
theorem dX0_openSet_15 : decode cX0_openSet 15 = .ok (.if_icmp .ge 47, 3) := by decide +kernel
theorem dX0_openSet_18 : decode cX0_openSet 18 = .ok (.iload_n 1, 1) := by decide +kernel
theorem dX0_openSet_19 : decode cX0_openSet 19 = .ok (.aload_n 0, 1) := by decide +kernel
theorem dX0_openSet_20 : decode cX0_openSet 20 = .ok (.getfield 20, 3) := by decide +kernel
theorem dX0_openSet_23 : decode cX0_openSet 23 = .ok (.iload_n 2, 1) := by decide +kernel
theorem dX0_openSet_24 : decode cX0_openSet 24 = .ok (.aaload, 1) := by decide +kernel
theorem dX0_openSet_25 : decode cX0_openSet 25 = .ok (.invokevirtual 150, 3) := by decide +kernel
theorem dX0_openSet_28 : decode cX0_openSet 28 = .ok (.ifCond .ne 25, 3) := by decide +kernel
theorem dX0_openSet_31 : decode cX0_openSet 31 = .ok (.aload_n 0, 1) := by decide +kernel
theorem dX0_openSet_32 : decode cX0_openSet 32 = .ok (.getfield 20, 3) := by decide +kernel
theorem dX0_openSet_35 : decode cX0_openSet 35 = .ok (.iload_n 2, 1) := by decide +kernel
theorem dX0_openSet_36 : decode cX0_openSet 36 = .ok (.aaload, 1) := by decide +kernel
theorem dX0_openSet_37 : decode cX0_openSet 37 = .ok (.getfield 77, 3) := by decide +kernel
theorem dX0_openSet_40 : decode cX0_openSet 40 = .ok (.aload_n 0, 1) := by decide +kernel
theorem dX0_openSet_41 : decode cX0_openSet 41 = .ok (.getfield 47, 3) := by decide +kernel
theorem dX0_openSet_44 : decode cX0_openSet 44 = .ok (.if_icmp .lt 9, 3) := by decide +kernel
theorem dX0_openSet_47 : decode cX0_openSet 47 = .ok (.iconst 1, 1) := by decide +kernel
theorem dX0_openSet_48 : decode cX0_openSet 48 = .ok (.iload_n 2, 1) := by decide +kernel
theorem dX0_openSet_49 : decode cX0_openSet 49 = .ok (.ishl, 1) := by decide +kernel
theorem dX0_openSet_50 : decode cX0_openSet 50 = .ok (.goto 4, 3) := by decide +kernel
theorem dX0_openSet_53 : decode cX0_openSet 53 = .ok (.iconst 0, 1) := by decide +kernel
theorem dX0_openSet_54 : decode cX0_openSet 54 = .ok (.ior, 1) := by decide +kernel
theorem dX0_openSet_55 : decode cX0_openSet 55 = .ok (.istore_n 1, 1) := by decide +kernel
theorem dX0_openSet_56 : decode cX0_openSet 56 = .ok (.iinc 2 1, 3) := by decide +kernel
theorem dX0_openSet_59 : decode cX0_openSet 59 = .ok (.goto (-55), 3) := by decide +kernel
theorem dX0_openSet_62 : decode cX0_openSet 62 = .ok (.iload_n 1, 1) := by decide +kernel
theorem dX0_openSet_63 : decode cX0_openSet 63 = .ok (.ireturn, 1) := by decide +kernel
abbrev x_X0_openSet (E : mh_E) (d mc ms : Nat) (Post : Option Value → mh_H → Prop) : mh_X := (E, yX0_openSet, cX0_openSet, 3, (some .int), d, mc, ms, Post)
def q_X0_openSet_62 (X : mh_X) : mh_PR := s_il 1 (s_iret X)
theorem b_X0_openSet_62 {E : mh_E} {d mc ms : Nat} {Post : Option Value → mh_H → Prop} : mh_S (x_X0_openSet E d mc ms Post) 62 (q_X0_openSet_62 (x_X0_openSet E d mc ms Post)) := sn_iload_n dX0_openSet_62 rfl (sn_iret rfl dX0_openSet_63)
def q_X0_openSet_54 (X : mh_X) : mh_PR := s_bin (fun x y => x ||| y) (s_is 1 (s_inc 2 (1) (mh_G X 4)))
theorem b_X0_openSet_54 {E : mh_E} {d mc ms : Nat} {Post : Option Value → mh_H → Prop} : mh_S (x_X0_openSet E d mc ms Post) 54 (q_X0_openSet_54 (x_X0_openSet E d mc ms Post)) := sn_ior dX0_openSet_54 (sn_istore_n dX0_openSet_55 rfl (Nat.le_of_ble_eq_true rfl) (sn_iinc dX0_openSet_56 (by decide) (Nat.le_of_ble_eq_true rfl) (sn_goto (tgt := 4) dX0_openSet_59 (by decide) (mh_S.G))))
def q_X0_openSet_53 (X : mh_X) : mh_PR := s_push (.int (0)) (q_X0_openSet_54 X)
theorem b_X0_openSet_53 {E : mh_E} {d mc ms : Nat} {Post : Option Value → mh_H → Prop} : mh_S (x_X0_openSet E d mc ms Post) 53 (q_X0_openSet_53 (x_X0_openSet E d mc ms Post)) := sn_iconst dX0_openSet_53 (by decide) b_X0_openSet_54
def q_X0_openSet_4 (X : mh_X) : mh_PR := s_il 2 (s_al 0 (s_gi 0 3 (s_if2 (fun x y => y ≤ x) (q_X0_openSet_62 X) (s_il 2 (s_push (.int (10)) (s_if2 (fun x y => y ≤ x) (q_X0_openSet_62 X) (s_il 1 (s_al 0 (s_gr 0 1 (s_il 2 (s_aald 6 (s_cv X yX6_isFulfilled 6 0 (s_if1 (fun x => ¬ x = 0) (q_X0_openSet_53 X) (s_al 0 (s_gr 0 1 (s_il 2 (s_aald 6 (s_gi 6 4 (s_al 0 (s_gi 0 8 (s_if2 (fun x y => x < y) (q_X0_openSet_53 X) (s_push (.int (1)) (s_il 2 (s_bin mh_shl (q_X0_openSet_54 X)))))))))))))))))))))))))
theorem b_X0_openSet_4 {E : mh_E} {d mc ms : Nat} {Post : Option Value → mh_H → Prop} : mh_S (x_X0_openSet E d mc ms Post) 4 (q_X0_openSet_4 (x_X0_openSet E d mc ms Post)) := sn_iload_n dX0_openSet_4 rfl (sn_aload_n dX0_openSet_5 rfl (sn_geti clX0 (by decide) w_182 dX0_openSet_6 (sn_icmp_ge (tgt := 62) dX0_openSet_9 (by decide) (b_X0_openSet_62) (sn_iload_n dX0_openSet_12 rfl (sn_bipush dX0_openSet_13 (by decide) (sn_icmp_ge (tgt := 62) dX0_openSet_15 (by decide) (b_X0_openSet_62) (sn_iload_n dX0_openSet_18 rfl (sn_aload_n dX0_openSet_19 rfl (sn_getr clX0 (by decide) w_177 dX0_openSet_20 (sn_iload_n dX0_openSet_23 rfl (sn_aaload (by decide) rfl dX0_openSet_24 (sn_cv w_585 w_507 w_508 w_61 rfl nm_X6_isFulfilled dX0_openSet_25 (sn_if_ne (tgt := 53) dX0_openSet_28 (by decide) (b_X0_openSet_53) (sn_aload_n dX0_openSet_31 rfl (sn_getr clX0 (by decide) w_177 dX0_openSet_32 (sn_iload_n dX0_openSet_35 rfl (sn_aaload (by decide) rfl dX0_openSet_36 (sn_geti clX6 (by decide) w_156 dX0_openSet_37 (sn_aload_n dX0_openSet_40 rfl (sn_geti clX0 (by decide) w_193 dX0_openSet_41 (sn_icmp_lt (tgt := 53) dX0_openSet_44 (by decide) (b_X0_openSet_53) (sn_iconst dX0_openSet_47 (by decide) (sn_iload_n dX0_openSet_48 rfl (sn_ishl dX0_openSet_49 (sn_goto (tgt := 54) dX0_openSet_50 (by decide) (b_X0_openSet_54))))))))))))))))))))))))))
def q_X0_openSet_0 (X : mh_X) : mh_PR := s_push (.int (0)) (s_is 1 (s_push (.int (0)) (s_is 2 (mh_G X 4))))
theorem b_X0_openSet_0 {E : mh_E} {d mc ms : Nat} {Post : Option Value → mh_H → Prop} : mh_S (x_X0_openSet E d mc ms Post) 0 (q_X0_openSet_0 (x_X0_openSet E d mc ms Post)) := sn_iconst dX0_openSet_0 (by decide) (sn_istore_n dX0_openSet_1 rfl (Nat.le_of_ble_eq_true rfl) (sn_iconst dX0_openSet_2 (by decide) (sn_istore_n dX0_openSet_3 rfl (Nat.le_of_ble_eq_true rfl) mh_S.G)))
theorem m_X0_openSet {E : mh_E} {d mc ms : Nat} {args : List Value} {h : mh_H} {Post : Option Value → mh_H → Prop} (lv : List (Option Value)) (hl : lv_args 0 args = mh_al 0 lv) (hs : (lg_sl args).length ≤ 3) (hG : q_X0_openSet_0 (x_X0_openSet E d mc ms Post) lv [] h 0 0) : mh_M E d mc ms yX0_openSet args h Post := mh_M.of w_603 (by decide) (by decide) hl hs (b_X0_openSet_0 _ _ _ _ _ hG)
theorem dX0_holdingSet_0 : decode cX0_holdingSet 0 = .ok (.iconst 0, 1) := by decide +kernel
theorem dX0_holdingSet_1 : decode cX0_holdingSet 1 = .ok (.istore_n 1, 1) := by decide +kernel
theorem dX0_holdingSet_2 : decode cX0_holdingSet 2 = .ok (.iconst 0, 1) := by decide +kernel
theorem dX0_holdingSet_3 : decode cX0_holdingSet 3 = .ok (.istore_n 2, 1) := by decide +kernel
theorem dX0_holdingSet_4 : decode cX0_holdingSet 4 = .ok (.iload_n 2, 1) := by decide +kernel
theorem dX0_holdingSet_5 : decode cX0_holdingSet 5 = .ok (.aload_n 0, 1) := by decide +kernel
theorem dX0_holdingSet_6 : decode cX0_holdingSet 6 = .ok (.getfield 31, 3) := by decide +kernel
theorem dX0_holdingSet_9 : decode cX0_holdingSet 9 = .ok (.if_icmp .ge 38, 3) := by decide +kernel
theorem dX0_holdingSet_12 : decode cX0_holdingSet 12 = .ok (.iload_n 2, 1) := by decide +kernel
theorem dX0_holdingSet_13 : decode cX0_holdingSet 13 = .ok (.bipush 10, 2) := by decide +kernel
theorem dX0_holdingSet_15 : decode cX0_holdingSet 15 = .ok (.if_icmp .ge 32, 3) := by decide +kernel
theorem dX0_holdingSet_18 : decode cX0_holdingSet 18 = .ok (.iload_n 1, 1) := by decide +kernel
theorem dX0_holdingSet_19 : decode cX0_holdingSet 19 = .ok (.aload_n 0, 1) := by decide +kernel
theorem dX0_holdingSet_20 : decode cX0_holdingSet 20 = .ok (.aload_n 0, 1) := by decide +kernel
theorem dX0_holdingSet_21 : decode cX0_holdingSet 21 = .ok (.getfield 20, 3) := by decide +kernel
theorem dX0_holdingSet_24 : decode cX0_holdingSet 24 = .ok (.iload_n 2, 1) := by decide +kernel
theorem dX0_holdingSet_25 : decode cX0_holdingSet 25 = .ok (.aaload, 1) := by decide +kernel
theorem dX0_holdingSet_26 : decode cX0_holdingSet 26 = .ok (.invokevirtual 154, 3) := by decide +kernel
theorem dX0_holdingSet_29 : decode cX0_holdingSet 29 = .ok (.ifCond .eq 9, 3) := by decide +kernel
theorem dX0_holdingSet_32 : decode cX0_holdingSet 32 = .ok (.iconst 1, 1) := by decide +kernel
theorem dX0_holdingSet_33 : decode cX0_holdingSet 33 = .ok (.iload_n 2, 1) := by decide +kernel
theorem dX0_holdingSet_34 : decode cX0_holdingSet 34 = .ok (.ishl, 1) := by decide +kernel
theorem dX0_holdingSet_35 : decode cX0_holdingSet 35 = .ok (.goto 4, 3) := by decide +kernel
theorem dX0_holdingSet_38 : decode cX0_holdingSet 38 = .ok (.iconst 0, 1) := by decide +kernel
theorem dX0_holdingSet_39 : decode cX0_holdingSet 39 = .ok (.ior, 1) := by decide +kernel
theorem dX0_holdingSet_40 : decode cX0_holdingSet 40 = .ok (.istore_n 1, 1) := by decide +kernel
theorem dX0_holdingSet_41 : decode cX0_holdingSet 41 = .ok (.iinc 2 1, 3) := by decide +kernel
theorem dX0_holdingSet_44 : decode cX0_holdingSet 44 = .ok (.goto (-40), 3) := by decide +kernel
theorem dX0_holdingSet_47 : decode cX0_holdingSet 47 = .ok (.iload_n 1, 1) := by decide +kernel
theorem dX0_holdingSet_48 : decode cX0_holdingSet 48 = .ok (.ireturn, 1) := by decide +kernel
abbrev x_X0_holdingSet (E : mh_E) (d mc ms : Nat) (Post : Option Value → mh_H → Prop) : mh_X := (E, yX0_holdingSet, cX0_holdingSet, 3, (some .int), d, mc, ms, Post)
def q_X0_holdingSet_47 (X : mh_X) : mh_PR := s_il 1 (s_iret X)
theorem b_X0_holdingSet_47 {E : mh_E} {d mc ms : Nat} {Post : Option Value → mh_H → Prop} : mh_S (x_X0_holdingSet E d mc ms Post) 47 (q_X0_holdingSet_47 (x_X0_holdingSet E d mc ms Post)) := sn_iload_n dX0_holdingSet_47 rfl (sn_iret rfl dX0_holdingSet_48)
def q_X0_holdingSet_39 (X : mh_X) : mh_PR := s_bin (fun x y => x ||| y) (s_is 1 (s_inc 2 (1) (mh_G X 4)))
theorem b_X0_holdingSet_39 {E : mh_E} {d mc ms : Nat} {Post : Option Value → mh_H → Prop} : mh_S (x_X0_holdingSet E d mc ms Post) 39 (q_X0_holdingSet_39 (x_X0_holdingSet E d mc ms Post)) := sn_ior dX0_holdingSet_39 (sn_istore_n dX0_holdingSet_40 rfl (Nat.le_of_ble_eq_true rfl) (sn_iinc dX0_holdingSet_41 (by decide) (Nat.le_of_ble_eq_true rfl) (sn_goto (tgt := 4) dX0_holdingSet_44 (by decide) (mh_S.G))))
def q_X0_holdingSet_4 (X : mh_X) : mh_PR := s_il 2 (s_al 0 (s_gi 0 3 (s_if2 (fun x y => y ≤ x) (q_X0_holdingSet_47 X) (s_il 2 (s_push (.int (10)) (s_if2 (fun x y => y ≤ x) (q_X0_holdingSet_47 X) (s_il 1 (s_al 0 (s_al 0 (s_gr 0 1 (s_il 2 (s_aald 6 (s_cv X yX0_holds 0 1 (s_if1 (fun x => x = 0) (s_push (.int (0)) (q_X0_holdingSet_39 X)) (s_push (.int (1)) (s_il 2 (s_bin mh_shl (q_X0_holdingSet_39 X))))))))))))))))))
theorem b_X0_holdingSet_4 {E : mh_E} {d mc ms : Nat} {Post : Option Value → mh_H → Prop} : mh_S (x_X0_holdingSet E d mc ms Post) 4 (q_X0_holdingSet_4 (x_X0_holdingSet E d mc ms Post)) := sn_iload_n dX0_holdingSet_4 rfl (sn_aload_n dX0_holdingSet_5 rfl (sn_geti clX0 (by decide) w_182 dX0_holdingSet_6 (sn_icmp_ge (tgt := 47) dX0_holdingSet_9 (by decide) (b_X0_holdingSet_47) (sn_iload_n dX0_holdingSet_12 rfl (sn_bipush dX0_holdingSet_13 (by decide) (sn_icmp_ge (tgt := 47) dX0_holdingSet_15 (by decide) (b_X0_holdingSet_47) (sn_iload_n dX0_holdingSet_18 rfl (sn_aload_n dX0_holdingSet_19 rfl (sn_aload_n dX0_holdingSet_20 rfl (sn_getr clX0 (by decide) w_177 dX0_holdingSet_21 (sn_iload_n dX0_holdingSet_24 rfl (sn_aaload (by decide) rfl dX0_holdingSet_25 (sn_cv w_586 w_403 w_404 w_57 rfl nm_X0_holds dX0_holdingSet_26 (sn_if_eq (tgt := 38) dX0_holdingSet_29 (by decide) (sn_iconst dX0_holdingSet_38 (by decide) b_X0_holdingSet_39) (sn_iconst dX0_holdingSet_32 (by decide) (sn_iload_n dX0_holdingSet_33 rfl (sn_ishl dX0_holdingSet_34 (sn_goto (tgt := 39) dX0_holdingSet_35 (by decide) (b_X0_holdingSet_39)))))))))))))))))))
def q_X0_holdingSet_0 (X : mh_X) : mh_PR := s_push (.int (0)) (s_is 1 (s_push (.int (0)) (s_is 2 (mh_G X 4))))
theorem b_X0_holdingSet_0 {E : mh_E} {d mc ms : Nat} {Post : Option Value → mh_H → Prop} : mh_S (x_X0_holdingSet E d mc ms Post) 0 (q_X0_holdingSet_0 (x_X0_holdingSet E d mc ms Post)) := sn_iconst dX0_holdingSet_0 (by decide) (sn_istore_n dX0_holdingSet_1 rfl (Nat.le_of_ble_eq_true rfl) (sn_iconst dX0_holdingSet_2 (by decide) (sn_istore_n dX0_holdingSet_3 rfl (Nat.le_of_ble_eq_true rfl) mh_S.G)))
theorem m_X0_holdingSet {E : mh_E} {d mc ms : Nat} {args : List Value} {h : mh_H} {Post : Option Value → mh_H → Prop} (lv : List (Option Value)) (hl : lv_args 0 args = mh_al 0 lv) (hs : (lg_sl args).length ≤ 3) (hG : q_X0_holdingSet_0 (x_X0_holdingSet E d mc ms Post) lv [] h 0 0) : mh_M E d mc ms yX0_holdingSet args h Post := mh_M.of w_607 (by decide) (by decide) hl hs (b_X0_holdingSet_0 _ _ _ _ _ hG)
