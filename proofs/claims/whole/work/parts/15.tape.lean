theorem dX7_init_0 : decode cX7_init 0 = .ok (.aload_n 0, 1) := by decide +kernel
theorem dX7_init_1 : decode cX7_init 1 = .ok (.invokespecial 3, 3) := by decide +kernel
theorem dX7_init_4 : decode cX7_init 4 = .ok (.aload_n 0, 1) := by decide +kernel
theorem dX7_init_5 : decode cX7_init 5 = .ok (.bipush 96, 2) := by decide +kernel
theorem dX7_init_7 : decode cX7_init 7 = .ok (.newarray .int, 2) := by decide +kernel
theorem dX7_init_9 : decode cX7_init 9 = .ok (.putfield 9, 3) := by decide +kernel
theorem dX7_init_12 : decode cX7_init 12 = .ok (.aload_n 0, 1) := by decide +kernel
theorem dX7_init_13 : decode cX7_init 13 = .ok (.bipush 96, 2) := by decide +kernel
theorem dX7_init_15 : decode cX7_init 15 = .ok (.newarray .int, 2) := by decide +kernel
theorem dX7_init_17 : decode cX7_init 17 = .ok (.putfield 15, 3) := by decide +kernel
theorem dX7_init_20 : decode cX7_init 20 = .ok (.aload_n 0, 1) := by decide +kernel
theorem dX7_init_21 : decode cX7_init 21 = .ok (.iconst 0, 1) := by decide +kernel
theorem dX7_init_22 : decode cX7_init 22 = .ok (.putfield 18, 3) := by decide +kernel
theorem dX7_init_25 : decode cX7_init 25 = .ok (.aload_n 0, 1) := by decide +kernel
theorem dX7_init_26 : decode cX7_init 26 = .ok (.iconst (-1), 1) := by decide +kernel
theorem dX7_init_27 : decode cX7_init 27 = .ok (.putfield 22, 3) := by decide +kernel
theorem dX7_init_30 : decode cX7_init 30 = .ok (.aload_n 0, 1) := by decide +kernel
theorem dX7_init_31 : decode cX7_init 31 = .ok (.iconst (-1), 1) := by decide +kernel
theorem dX7_init_32 : decode cX7_init 32 = .ok (.putfield 25, 3) := by decide +kernel
theorem dX7_init_35 : decode cX7_init 35 = .ok (.aload_n 0, 1) := by decide +kernel
theorem dX7_init_36 : decode cX7_init 36 = .ok (.iconst 0, 1) := by decide +kernel
theorem dX7_init_37 : decode cX7_init 37 = .ok (.putfield 28, 3) := by decide +kernel
theorem dX7_init_40 : decode cX7_init 40 = .ok (.aload_n 0, 1) := by decide +kernel
theorem dX7_init_41 : decode cX7_init 41 = .ok (.iconst 0, 1) := by decide +kernel
theorem dX7_init_42 : decode cX7_init 42 = .ok (.putfield 31, 3) := by decide +kernel
theorem dX7_init_45 : decode cX7_init 45 = .ok (.aload_n 0, 1) := by decide +kernel
theorem dX7_init_46 : decode cX7_init 46 = .ok (.iconst 0, 1) := by decide +kernel
theorem dX7_init_47 : decode cX7_init 47 = .ok (.putfield 34, 3) := by decide +kernel
theorem dX7_init_50 : decode cX7_init 50 = .ok (.aload_n 0, 1) := by decide +kernel
theorem dX7_init_51 : decode cX7_init 51 = .ok (.iconst 0, 1) := by decide +kernel
theorem dX7_init_52 : decode cX7_init 52 = .ok (.putfield 37, 3) := by decide +kernel
theorem dX7_init_55 : decode cX7_init 55 = .ok (.aload_n 0, 1) := by decide +kernel
theorem dX7_init_56 : decode cX7_init 56 = .ok (.iconst 0, 1) := by decide +kernel
theorem dX7_init_57 : decode cX7_init 57 = .ok (.putfield 40, 3) := by decide +kernel
theorem dX7_init_60 : decode cX7_init 60 = .ok (.aload_n 0, 1) := by decide +kernel
theorem dX7_init_61 : decode cX7_init 61 = .ok (.iconst 0, 1) := by decide +kernel
theorem dX7_init_62 : decode cX7_init 62 = .ok (.putfield 43, 3) := by decide +kernel
theorem dX7_init_65 : decode cX7_init 65 = .ok (.aload_n 0, 1) := by decide +kernel
theorem dX7_init_66 : decode cX7_init 66 = .ok (.iconst 0, 1) := by decide +kernel
theorem dX7_init_67 : decode cX7_init 67 = .ok (.putfield 46, 3) := by decide +kernel
theorem dX7_init_70 : decode cX7_init 70 = .ok (.return_, 1) := by decide +kernel
abbrev x_X7_init (E : mh_E) (d mc ms : Nat) (Post : Option Value → mh_H → Prop) : mh_X := (E, yX7_init, cX7_init, 1, none, d, mc, ms, Post)
def q_X7_init_0 (X : mh_X) : mh_PR := s_al 0 (s_oi X (s_al 0 (s_push (.int (96)) (s_newa X 0 (s_pr 7 0 (s_al 0 (s_push (.int (96)) (s_newa X 0 (s_pr 7 1 (s_al 0 (s_push (.int (0)) (s_pi 7 2 (s_al 0 (s_push (.int (-1)) (s_pi 7 3 (s_al 0 (s_push (.int (-1)) (s_pi 7 4 (s_al 0 (s_push (.int (0)) (s_pi 7 5 (s_al 0 (s_push (.int (0)) (s_pi 7 6 (s_al 0 (s_push (.int (0)) (s_pi 7 7 (s_al 0 (s_push (.int (0)) (s_pi 7 8 (s_al 0 (s_push (.int (0)) (s_pi 7 9 (s_al 0 (s_push (.int (0)) (s_pi 7 10 (s_al 0 (s_push (.int (0)) (s_pi 7 11 (s_vret X))))))))))))))))))))))))))))))))))))))))
theorem b_X7_init_0 {E : mh_E} {d mc ms : Nat} {Post : Option Value → mh_H → Prop} : mh_S (x_X7_init E d mc ms Post) 0 (q_X7_init_0 (x_X7_init E d mc ms Post)) := sn_aload_n dX7_init_0 rfl (sn_oi w_246 w_82 w_oi dX7_init_1 (sn_aload_n dX7_init_4 rfl (sn_bipush dX7_init_5 (by decide) (sn_newint w_109 dX7_init_7 (sn_putrF clX7 (by decide) w_247 rfl rfl rfl (Or.inr ⟨_, rfl⟩) dX7_init_9 (sn_aload_n dX7_init_12 rfl (sn_bipush dX7_init_13 (by decide) (sn_newint w_109 dX7_init_15 (sn_putrF clX7 (by decide) w_248 rfl rfl rfl (Or.inr ⟨_, rfl⟩) dX7_init_17 (sn_aload_n dX7_init_20 rfl (sn_iconst dX7_init_21 (by decide) (sn_puti clX7 (by decide) w_249 rfl rfl dX7_init_22 (sn_aload_n dX7_init_25 rfl (sn_iconst dX7_init_26 (by decide) (sn_puti clX7 (by decide) w_251 rfl rfl dX7_init_27 (sn_aload_n dX7_init_30 rfl (sn_iconst dX7_init_31 (by decide) (sn_puti clX7 (by decide) w_253 rfl rfl dX7_init_32 (sn_aload_n dX7_init_35 rfl (sn_iconst dX7_init_36 (by decide) (sn_puti clX7 (by decide) w_254 rfl rfl dX7_init_37 (sn_aload_n dX7_init_40 rfl (sn_iconst dX7_init_41 (by decide) (sn_puti clX7 (by decide) w_255 rfl rfl dX7_init_42 (sn_aload_n dX7_init_45 rfl (sn_iconst dX7_init_46 (by decide) (sn_puti clX7 (by decide) w_256 rfl rfl dX7_init_47 (sn_aload_n dX7_init_50 rfl (sn_iconst dX7_init_51 (by decide) (sn_puti clX7 (by decide) w_257 rfl rfl dX7_init_52 (sn_aload_n dX7_init_55 rfl (sn_iconst dX7_init_56 (by decide) (sn_puti clX7 (by decide) w_258 rfl rfl dX7_init_57 (sn_aload_n dX7_init_60 rfl (sn_iconst dX7_init_61 (by decide) (sn_puti clX7 (by decide) w_259 rfl rfl dX7_init_62 (sn_aload_n dX7_init_65 rfl (sn_iconst dX7_init_66 (by decide) (sn_puti clX7 (by decide) w_260 rfl rfl dX7_init_67 (sn_vret rfl dX7_init_70))))))))))))))))))))))))))))))))))))))))
theorem m_X7_init {E : mh_E} {d mc ms : Nat} {args : List Value} {h : mh_H} {Post : Option Value → mh_H → Prop} (lv : List (Option Value)) (hl : lv_args 0 args = mh_al 0 lv) (hs : (lg_sl args).length ≤ 1) (hG : q_X7_init_0 (x_X7_init E d mc ms Post) lv [] h 0 0) : mh_M E d mc ms yX7_init args h Post := mh_M.of w_245 (by decide) (by decide) hl hs (b_X7_init_0 _ _ _ _ _ hG)
theorem dX7_append_0 : decode cX7_append 0 = .ok (.bipush 24, 2) := by decide +kernel
theorem dX7_append_2 : decode cX7_append 2 = .ok (.istore_n 2, 1) := by decide +kernel
theorem dX7_append_3 : decode cX7_append 3 = .ok (.iload_n 2, 1) := by decide +kernel
theorem dX7_append_4 : decode cX7_append 4 = .ok (.ifCond .lt 44, 3) := by decide +kernel
theorem dX7_append_7 : decode cX7_append 7 = .ok (.aload_n 0, 1) := by decide +kernel
theorem dX7_append_8 : decode cX7_append 8 = .ok (.getfield 18, 3) := by decide +kernel
theorem dX7_append_11 : decode cX7_append 11 = .ok (.bipush 96, 2) := by decide +kernel
theorem dX7_append_13 : decode cX7_append 13 = .ok (.if_icmp .ge 35, 3) := by decide +kernel
theorem dX7_append_16 : decode cX7_append 16 = .ok (.aload_n 0, 1) := by decide +kernel
theorem dX7_append_17 : decode cX7_append 17 = .ok (.getfield 9, 3) := by decide +kernel
theorem dX7_append_20 : decode cX7_append 20 = .ok (.aload_n 0, 1) := by decide +kernel
theorem dX7_append_21 : decode cX7_append 21 = .ok (.getfield 18, 3) := by decide +kernel
theorem dX7_append_24 : decode cX7_append 24 = .ok (.iload_n 1, 1) := by decide +kernel
theorem dX7_append_25 : decode cX7_append 25 = .ok (.iload_n 2, 1) := by decide +kernel
theorem dX7_append_26 : decode cX7_append 26 = .ok (.iushr, 1) := by decide +kernel
theorem dX7_append_27 : decode cX7_append 27 = .ok (.sipush 255, 3) := by decide +kernel
theorem dX7_append_30 : decode cX7_append 30 = .ok (.iand, 1) := by decide +kernel
theorem dX7_append_31 : decode cX7_append 31 = .ok (.iastore, 1) := by decide +kernel
theorem dX7_append_32 : decode cX7_append 32 = .ok (.aload_n 0, 1) := by decide +kernel
theorem dX7_append_33 : decode cX7_append 33 = .ok (.dup, 1) := by decide +kernel
theorem dX7_append_34 : decode cX7_append 34 = .ok (.getfield 18, 3) := by decide +kernel
theorem dX7_append_37 : decode cX7_append 37 = .ok (.iconst 1, 1) := by decide +kernel
theorem dX7_append_38 : decode cX7_append 38 = .ok (.iadd, 1) := by decide +kernel
theorem dX7_append_39 : decode cX7_append 39 = .ok (.putfield 18, 3) := by decide +kernel
theorem dX7_append_42 : decode cX7_append 42 = .ok (.iinc 2 (-8), 3) := by decide +kernel
theorem dX7_append_45 : decode cX7_append 45 = .ok (.goto (-42), 3) := by decide +kernel
theorem dX7_append_48 : decode cX7_append 48 = .ok (.return_, 1) := by decide +kernel
abbrev x_X7_append (E : mh_E) (d mc ms : Nat) (Post : Option Value → mh_H → Prop) : mh_X := (E, yX7_append, cX7_append, 3, none, d, mc, ms, Post)
def q_X7_append_48 (X : mh_X) : mh_PR := s_vret X
theorem b_X7_append_48 {E : mh_E} {d mc ms : Nat} {Post : Option Value → mh_H → Prop} : mh_S (x_X7_append E d mc ms Post) 48 (q_X7_append_48 (x_X7_append E d mc ms Post)) := sn_vret rfl dX7_append_48
def q_X7_append_3 (X : mh_X) : mh_PR := s_il 2 (s_if1 (fun x => x < 0) (q_X7_append_48 X) (s_al 0 (s_gi 7 2 (s_push (.int (96)) (s_if2 (fun x y => y ≤ x) (q_X7_append_48 X) (s_al 0 (s_gr 7 0 (s_al 0 (s_gi 7 2 (s_il 1 (s_il 2 (s_bin mh_ush (s_push (.int (255)) (s_bin (fun x y => x &&& y) (s_ast 0 (fun x => x) (s_al 0 (s_dup (s_gi 7 2 (s_push (.int (1)) (s_bin (fun x y => x + y) (s_pi 7 2 (s_inc 2 (-8) (mh_G X 3)))))))))))))))))))))))
theorem b_X7_append_3 {E : mh_E} {d mc ms : Nat} {Post : Option Value → mh_H → Prop} : mh_S (x_X7_append E d mc ms Post) 3 (q_X7_append_3 (x_X7_append E d mc ms Post)) := sn_iload_n dX7_append_3 rfl (sn_if_lt (tgt := 48) dX7_append_4 (by decide) (b_X7_append_48) (sn_aload_n dX7_append_7 rfl (sn_geti clX7 (by decide) w_249 dX7_append_8 (sn_bipush dX7_append_11 (by decide) (sn_icmp_ge (tgt := 48) dX7_append_13 (by decide) (b_X7_append_48) (sn_aload_n dX7_append_16 rfl (sn_getr clX7 (by decide) w_247 dX7_append_17 (sn_aload_n dX7_append_20 rfl (sn_geti clX7 (by decide) w_249 dX7_append_21 (sn_iload_n dX7_append_24 rfl (sn_iload_n dX7_append_25 rfl (sn_iushr dX7_append_26 (sn_sipush dX7_append_27 (by decide) (sn_iand dX7_append_30 (sn_iastore dX7_append_31 (sn_aload_n dX7_append_32 rfl (sn_dup dX7_append_33 (sn_geti clX7 (by decide) w_249 dX7_append_34 (sn_iconst dX7_append_37 (by decide) (sn_iadd dX7_append_38 (sn_puti clX7 (by decide) w_249 rfl rfl dX7_append_39 (sn_iinc dX7_append_42 (by decide) (Nat.le_of_ble_eq_true rfl) (sn_goto (tgt := 3) dX7_append_45 (by decide) (mh_S.G))))))))))))))))))))))))
def q_X7_append_0 (X : mh_X) : mh_PR := s_push (.int (24)) (s_is 2 (mh_G X 3))
theorem b_X7_append_0 {E : mh_E} {d mc ms : Nat} {Post : Option Value → mh_H → Prop} : mh_S (x_X7_append E d mc ms Post) 0 (q_X7_append_0 (x_X7_append E d mc ms Post)) := sn_bipush dX7_append_0 (by decide) (sn_istore_n dX7_append_2 rfl (Nat.le_of_ble_eq_true rfl) mh_S.G)
theorem m_X7_append {E : mh_E} {d mc ms : Nat} {args : List Value} {h : mh_H} {Post : Option Value → mh_H → Prop} (lv : List (Option Value)) (hl : lv_args 0 args = mh_al 0 lv) (hs : (lg_sl args).length ≤ 3) (hG : q_X7_append_0 (x_X7_append E d mc ms Post) lv [] h 0 0) : mh_M E d mc ms yX7_append args h Post := mh_M.of w_767 (by decide) (by decide) hl hs (b_X7_append_0 _ _ _ _ _ hG)
theorem dX7_parse_0 : decode cX7_parse 0 = .ok (.aload_n 0, 1) := by decide +kernel
theorem dX7_parse_1 : decode cX7_parse 1 = .ok (.iconst (-1), 1) := by decide +kernel
theorem dX7_parse_2 : decode cX7_parse 2 = .ok (.putfield 22, 3) := by decide +kernel
theorem dX7_parse_5 : decode cX7_parse 5 = .ok (.aload_n 0, 1) := by decide +kernel
theorem dX7_parse_6 : decode cX7_parse 6 = .ok (.iconst (-1), 1) := by decide +kernel
theorem dX7_parse_7 : decode cX7_parse 7 = .ok (.putfield 25, 3) := by decide +kernel
theorem dX7_parse_10 : decode cX7_parse 10 = .ok (.aload_n 0, 1) := by decide +kernel
theorem dX7_parse_11 : decode cX7_parse 11 = .ok (.iconst 0, 1) := by decide +kernel
theorem dX7_parse_12 : decode cX7_parse 12 = .ok (.putfield 31, 3) := by decide +kernel
theorem dX7_parse_15 : decode cX7_parse 15 = .ok (.aload_n 0, 1) := by decide +kernel
theorem dX7_parse_16 : decode cX7_parse 16 = .ok (.iconst 0, 1) := by decide +kernel
theorem dX7_parse_17 : decode cX7_parse 17 = .ok (.putfield 37, 3) := by decide +kernel
theorem dX7_parse_20 : decode cX7_parse 20 = .ok (.aload_n 0, 1) := by decide +kernel
theorem dX7_parse_21 : decode cX7_parse 21 = .ok (.iconst 0, 1) := by decide +kernel
theorem dX7_parse_22 : decode cX7_parse 22 = .ok (.putfield 40, 3) := by decide +kernel
theorem dX7_parse_25 : decode cX7_parse 25 = .ok (.aload_n 0, 1) := by decide +kernel
theorem dX7_parse_26 : decode cX7_parse 26 = .ok (.iconst 0, 1) := by decide +kernel
theorem dX7_parse_27 : decode cX7_parse 27 = .ok (.putfield 43, 3) := by decide +kernel
theorem dX7_parse_30 : decode cX7_parse 30 = .ok (.aload_n 0, 1) := by decide +kernel
theorem dX7_parse_31 : decode cX7_parse 31 = .ok (.iconst 0, 1) := by decide +kernel
theorem dX7_parse_32 : decode cX7_parse 32 = .ok (.putfield 46, 3) := by decide +kernel
theorem dX7_parse_35 : decode cX7_parse 35 = .ok (.aload_n 0, 1) := by decide +kernel
theorem dX7_parse_36 : decode cX7_parse 36 = .ok (.invokevirtual 49, 3) := by decide +kernel
theorem dX7_parse_39 : decode cX7_parse 39 = .ok (.aload_n 0, 1) := by decide +kernel
theorem dX7_parse_40 : decode cX7_parse 40 = .ok (.invokevirtual 52, 3) := by decide +kernel
theorem dX7_parse_43 : decode cX7_parse 43 = .ok (.aload_n 0, 1) := by decide +kernel
theorem dX7_parse_44 : decode cX7_parse 44 = .ok (.iconst 0, 1) := by decide +kernel
theorem dX7_parse_45 : decode cX7_parse 45 = .ok (.invokevirtual 55, 3) := by decide +kernel
theorem dX7_parse_48 : decode cX7_parse 48 = .ok (.aload_n 0, 1) := by decide +kernel
theorem dX7_parse_49 : decode cX7_parse 49 = .ok (.getfield 25, 3) := by decide +kernel
theorem dX7_parse_52 : decode cX7_parse 52 = .ok (.iconst (-1), 1) := by decide +kernel
theorem dX7_parse_53 : decode cX7_parse 53 = .ok (.if_icmp .eq 7, 3) := by decide +kernel
theorem dX7_parse_56 : decode cX7_parse 56 = .ok (.aload_n 0, 1) := by decide +kernel
theorem dX7_parse_57 : decode cX7_parse 57 = .ok (.invokevirtual 59, 3) := by decide +kernel
theorem dX7_parse_60 : decode cX7_parse 60 = .ok (.return_, 1) := by decide +kernel
abbrev x_X7_parse (E : mh_E) (d mc ms : Nat) (Post : Option Value → mh_H → Prop) : mh_X := (E, yX7_parse, cX7_parse, 1, none, d, mc, ms, Post)
def q_X7_parse_60 (X : mh_X) : mh_PR := s_vret X
theorem b_X7_parse_60 {E : mh_E} {d mc ms : Nat} {Post : Option Value → mh_H → Prop} : mh_S (x_X7_parse E d mc ms Post) 60 (q_X7_parse_60 (x_X7_parse E d mc ms Post)) := sn_vret rfl dX7_parse_60
def q_X7_parse_0 (X : mh_X) : mh_PR := s_al 0 (s_push (.int (-1)) (s_pi 7 3 (s_al 0 (s_push (.int (-1)) (s_pi 7 4 (s_al 0 (s_push (.int (0)) (s_pi 7 6 (s_al 0 (s_push (.int (0)) (s_pi 7 8 (s_al 0 (s_push (.int (0)) (s_pi 7 9 (s_al 0 (s_push (.int (0)) (s_pi 7 10 (s_al 0 (s_push (.int (0)) (s_pi 7 11 (s_al 0 (s_cv X yX7_next 7 0 (s_al 0 (s_cv X yX7_readKey 7 0 (s_al 0 (s_push (.int (0)) (s_cv X yX7_readLevel 7 1 (s_al 0 (s_gi 7 4 (s_push (.int (-1)) (s_if2 (fun x y => x = y) (q_X7_parse_60 X) (s_al 0 (s_cv X yX7_fail 7 0 (q_X7_parse_60 X))))))))))))))))))))))))))))))))))
theorem b_X7_parse_0 {E : mh_E} {d mc ms : Nat} {Post : Option Value → mh_H → Prop} : mh_S (x_X7_parse E d mc ms Post) 0 (q_X7_parse_0 (x_X7_parse E d mc ms Post)) := sn_aload_n dX7_parse_0 rfl (sn_iconst dX7_parse_1 (by decide) (sn_puti clX7 (by decide) w_251 rfl rfl dX7_parse_2 (sn_aload_n dX7_parse_5 rfl (sn_iconst dX7_parse_6 (by decide) (sn_puti clX7 (by decide) w_253 rfl rfl dX7_parse_7 (sn_aload_n dX7_parse_10 rfl (sn_iconst dX7_parse_11 (by decide) (sn_puti clX7 (by decide) w_255 rfl rfl dX7_parse_12 (sn_aload_n dX7_parse_15 rfl (sn_iconst dX7_parse_16 (by decide) (sn_puti clX7 (by decide) w_257 rfl rfl dX7_parse_17 (sn_aload_n dX7_parse_20 rfl (sn_iconst dX7_parse_21 (by decide) (sn_puti clX7 (by decide) w_258 rfl rfl dX7_parse_22 (sn_aload_n dX7_parse_25 rfl (sn_iconst dX7_parse_26 (by decide) (sn_puti clX7 (by decide) w_259 rfl rfl dX7_parse_27 (sn_aload_n dX7_parse_30 rfl (sn_iconst dX7_parse_31 (by decide) (sn_puti clX7 (by decide) w_260 rfl rfl dX7_parse_32 (sn_aload_n dX7_parse_35 rfl (sn_cv w_780 w_782 w_9 w_63 rfl nm_X7_next dX7_parse_36 (sn_aload_n dX7_parse_39 rfl (sn_cv w_794 w_796 w_11 w_63 rfl nm_X7_readKey dX7_parse_40 (sn_aload_n dX7_parse_43 rfl (sn_iconst dX7_parse_44 (by decide) (sn_cv w_860 w_862 w_14 w_63 rfl nm_X7_readLevel dX7_parse_45 (sn_aload_n dX7_parse_48 rfl (sn_geti clX7 (by decide) w_253 dX7_parse_49 (sn_iconst dX7_parse_52 (by decide) (sn_icmp_eq (tgt := 60) dX7_parse_53 (by decide) (b_X7_parse_60) (sn_aload_n dX7_parse_56 rfl (sn_cv w_856 w_858 w_13 w_63 rfl nm_X7_fail dX7_parse_57 b_X7_parse_60)))))))))))))))))))))))))))))))))
theorem m_X7_parse {E : mh_E} {d mc ms : Nat} {args : List Value} {h : mh_H} {Post : Option Value → mh_H → Prop} (lv : List (Option Value)) (hl : lv_args 0 args = mh_al 0 lv) (hs : (lg_sl args).length ≤ 1) (hG : q_X7_parse_0 (x_X7_parse E d mc ms Post) lv [] h 0 0) : mh_M E d mc ms yX7_parse args h Post := mh_M.of w_779 (by decide) (by decide) hl hs (b_X7_parse_0 _ _ _ _ _ hG)
theorem dX7_parsed_0 : decode cX7_parsed 0 = .ok (.new 62, 3) := by decide +kernel
theorem dX7_parsed_3 : decode cX7_parsed 3 = .ok (.dup, 1) := by decide +kernel
theorem dX7_parsed_4 : decode cX7_parsed 4 = .ok (.aload_n 0, 1) := by decide +kernel
theorem dX7_parsed_5 : decode cX7_parsed 5 = .ok (.getfield 34, 3) := by decide +kernel
theorem dX7_parsed_8 : decode cX7_parsed 8 = .ok (.aload_n 0, 1) := by decide +kernel
theorem dX7_parsed_9 : decode cX7_parsed 9 = .ok (.getfield 40, 3) := by decide +kernel
theorem dX7_parsed_12 : decode cX7_parsed 12 = .ok (.aload_n 0, 1) := by decide +kernel
theorem dX7_parsed_13 : decode cX7_parsed 13 = .ok (.getfield 15, 3) := by decide +kernel
theorem dX7_parsed_16 : decode cX7_parsed 16 = .ok (.aload_n 0, 1) := by decide +kernel
theorem dX7_parsed_17 : decode cX7_parsed 17 = .ok (.getfield 37, 3) := by decide +kernel
theorem dX7_parsed_20 : decode cX7_parsed 20 = .ok (.invokestatic 64, 3) := by decide +kernel
theorem dX7_parsed_23 : decode cX7_parsed 23 = .ok (.invokespecial 70, 3) := by decide +kernel
theorem dX7_parsed_26 : decode cX7_parsed 26 = .ok (.areturn, 1) := by decide +kernel
abbrev x_X7_parsed (E : mh_E) (d mc ms : Nat) (Post : Option Value → mh_H → Prop) : mh_X := (E, yX7_parsed, cX7_parsed, 1, (some (.object "StonesToCome$Text")), d, mc, ms, Post)
def q_X7_parsed_0 (X : mh_X) : mh_PR := s_new X 8 5 [.int 0, .int 0, .null, .null, .int 0] (s_dup (s_al 0 (s_gi 7 7 (s_al 0 (s_gi 7 9 (s_al 0 (s_gr 7 1 (s_al 0 (s_gi 7 8 (s_cs X yJ7_copyOf_59c91 2 (s_ci X yX8_init 3 (s_aret X))))))))))))
theorem b_X7_parsed_0 {E : mh_E} {d mc ms : Nat} {Post : Option Value → mh_H → Prop} : mh_S (x_X7_parsed E d mc ms Post) 0 (q_X7_parsed_0 (x_X7_parsed E d mc ms Post)) := sn_new clX8 w_961 w_446 w_68 dfX8 dX7_parsed_0 (sn_dup dX7_parsed_3 (sn_aload_n dX7_parsed_4 rfl (sn_geti clX7 (by decide) w_256 dX7_parsed_5 (sn_aload_n dX7_parsed_8 rfl (sn_geti clX7 (by decide) w_258 dX7_parsed_9 (sn_aload_n dX7_parsed_12 rfl (sn_getr clX7 (by decide) w_248 dX7_parsed_13 (sn_aload_n dX7_parsed_16 rfl (sn_geti clX7 (by decide) w_257 dX7_parsed_17 (sn_cs w_962 w_963 w_60 nm_J7_copyOf_59c91 dX7_parsed_20 (sn_ci w_974 w_975 w_68 rfl nm_X8_init dX7_parsed_23 (sn_aret rfl (Or.inl ⟨_, rfl⟩) dX7_parsed_26))))))))))))
theorem m_X7_parsed {E : mh_E} {d mc ms : Nat} {args : List Value} {h : mh_H} {Post : Option Value → mh_H → Prop} (lv : List (Option Value)) (hl : lv_args 0 args = mh_al 0 lv) (hs : (lg_sl args).length ≤ 1) (hG : q_X7_parsed_0 (x_X7_parsed E d mc ms Post) lv [] h 0 0) : mh_M E d mc ms yX7_parsed args h Post := mh_M.of w_960 (by decide) (by decide) hl hs (b_X7_parsed_0 _ _ _ _ _ hG)
theorem dX7_byteAt_0 : decode cX7_byteAt 0 = .ok (.iload_n 1, 1) := by decide +kernel
theorem dX7_byteAt_1 : decode cX7_byteAt 1 = .ok (.ifCond .lt 26, 3) := by decide +kernel
theorem dX7_byteAt_4 : decode cX7_byteAt 4 = .ok (.iload_n 1, 1) := by decide +kernel
theorem dX7_byteAt_5 : decode cX7_byteAt 5 = .ok (.aload_n 0, 1) := by decide +kernel
theorem dX7_byteAt_6 : decode cX7_byteAt 6 = .ok (.getfield 18, 3) := by decide +kernel
theorem dX7_byteAt_9 : decode cX7_byteAt 9 = .ok (.if_icmp .ge 18, 3) := by decide +kernel
theorem dX7_byteAt_12 : decode cX7_byteAt 12 = .ok (.iload_n 1, 1) := by decide +kernel
theorem dX7_byteAt_13 : decode cX7_byteAt 13 = .ok (.bipush 96, 2) := by decide +kernel
theorem dX7_byteAt_15 : decode cX7_byteAt 15 = .ok (.if_icmp .ge 12, 3) := by decide +kernel
theorem dX7_byteAt_18 : decode cX7_byteAt 18 = .ok (.aload_n 0, 1) := by decide +kernel
theorem dX7_byteAt_19 : decode cX7_byteAt 19 = .ok (.getfield 9, 3) := by decide +kernel
theorem dX7_byteAt_22 : decode cX7_byteAt 22 = .ok (.iload_n 1, 1) := by decide +kernel
theorem dX7_byteAt_23 : decode cX7_byteAt 23 = .ok (.iaload, 1) := by decide +kernel
theorem dX7_byteAt_24 : decode cX7_byteAt 24 = .ok (.goto 4, 3) := by decide +kernel
theorem dX7_byteAt_27 : decode cX7_byteAt 27 = .ok (.iconst (-1), 1) := by decide +kernel
theorem dX7_byteAt_28 : decode cX7_byteAt 28 = .ok (.ireturn, 1) := by decide +kernel
abbrev x_X7_byteAt (E : mh_E) (d mc ms : Nat) (Post : Option Value → mh_H → Prop) : mh_X := (E, yX7_byteAt, cX7_byteAt, 2, (some .int), d, mc, ms, Post)
def q_X7_byteAt_28 (X : mh_X) : mh_PR := s_iret X
theorem b_X7_byteAt_28 {E : mh_E} {d mc ms : Nat} {Post : Option Value → mh_H → Prop} : mh_S (x_X7_byteAt E d mc ms Post) 28 (q_X7_byteAt_28 (x_X7_byteAt E d mc ms Post)) := sn_iret rfl dX7_byteAt_28
def q_X7_byteAt_27 (X : mh_X) : mh_PR := s_push (.int (-1)) (q_X7_byteAt_28 X)
theorem b_X7_byteAt_27 {E : mh_E} {d mc ms : Nat} {Post : Option Value → mh_H → Prop} : mh_S (x_X7_byteAt E d mc ms Post) 27 (q_X7_byteAt_27 (x_X7_byteAt E d mc ms Post)) := sn_iconst dX7_byteAt_27 (by decide) b_X7_byteAt_28
def q_X7_byteAt_0 (X : mh_X) : mh_PR := s_il 1 (s_if1 (fun x => x < 0) (q_X7_byteAt_27 X) (s_il 1 (s_al 0 (s_gi 7 2 (s_if2 (fun x y => y ≤ x) (q_X7_byteAt_27 X) (s_il 1 (s_push (.int (96)) (s_if2 (fun x y => y ≤ x) (q_X7_byteAt_27 X) (s_al 0 (s_gr 7 0 (s_il 1 (s_ald 0 (q_X7_byteAt_28 X)))))))))))))
theorem b_X7_byteAt_0 {E : mh_E} {d mc ms : Nat} {Post : Option Value → mh_H → Prop} : mh_S (x_X7_byteAt E d mc ms Post) 0 (q_X7_byteAt_0 (x_X7_byteAt E d mc ms Post)) := sn_iload_n dX7_byteAt_0 rfl (sn_if_lt (tgt := 27) dX7_byteAt_1 (by decide) (b_X7_byteAt_27) (sn_iload_n dX7_byteAt_4 rfl (sn_aload_n dX7_byteAt_5 rfl (sn_geti clX7 (by decide) w_249 dX7_byteAt_6 (sn_icmp_ge (tgt := 27) dX7_byteAt_9 (by decide) (b_X7_byteAt_27) (sn_iload_n dX7_byteAt_12 rfl (sn_bipush dX7_byteAt_13 (by decide) (sn_icmp_ge (tgt := 27) dX7_byteAt_15 (by decide) (b_X7_byteAt_27) (sn_aload_n dX7_byteAt_18 rfl (sn_getr clX7 (by decide) w_247 dX7_byteAt_19 (sn_iload_n dX7_byteAt_22 rfl (sn_iaload dX7_byteAt_23 (sn_goto (tgt := 28) dX7_byteAt_24 (by decide) (b_X7_byteAt_28))))))))))))))
theorem m_X7_byteAt {E : mh_E} {d mc ms : Nat} {args : List Value} {h : mh_H} {Post : Option Value → mh_H → Prop} (lv : List (Option Value)) (hl : lv_args 0 args = mh_al 0 lv) (hs : (lg_sl args).length ≤ 2) (hG : q_X7_byteAt_0 (x_X7_byteAt E d mc ms Post) lv [] h 0 0) : mh_M E d mc ms yX7_byteAt args h Post := mh_M.of w_787 (by decide) (by decide) hl hs (b_X7_byteAt_0 _ _ _ _ _ hG)
theorem dX7_isLetter_0 : decode cX7_isLetter 0 = .ok (.iload_n 0, 1) := by decide +kernel
theorem dX7_isLetter_1 : decode cX7_isLetter 1 = .ok (.bipush 97, 2) := by decide +kernel
theorem dX7_isLetter_3 : decode cX7_isLetter 3 = .ok (.if_icmp .lt 13, 3) := by decide +kernel
theorem dX7_isLetter_6 : decode cX7_isLetter 6 = .ok (.iload_n 0, 1) := by decide +kernel
theorem dX7_isLetter_7 : decode cX7_isLetter 7 = .ok (.bipush 122, 2) := by decide +kernel
theorem dX7_isLetter_9 : decode cX7_isLetter 9 = .ok (.if_icmp .gt 7, 3) := by decide +kernel
theorem dX7_isLetter_12 : decode cX7_isLetter 12 = .ok (.iconst 1, 1) := by decide +kernel
theorem dX7_isLetter_13 : decode cX7_isLetter 13 = .ok (.goto 4, 3) := by decide +kernel
theorem dX7_isLetter_16 : decode cX7_isLetter 16 = .ok (.iconst 0, 1) := by decide +kernel
theorem dX7_isLetter_17 : decode cX7_isLetter 17 = .ok (.ireturn, 1) := by decide +kernel
abbrev x_X7_isLetter (E : mh_E) (d mc ms : Nat) (Post : Option Value → mh_H → Prop) : mh_X := (E, yX7_isLetter, cX7_isLetter, 1, (some .boolean), d, mc, ms, Post)
def q_X7_isLetter_17 (X : mh_X) : mh_PR := s_zret X
theorem b_X7_isLetter_17 {E : mh_E} {d mc ms : Nat} {Post : Option Value → mh_H → Prop} : mh_S (x_X7_isLetter E d mc ms Post) 17 (q_X7_isLetter_17 (x_X7_isLetter E d mc ms Post)) := sn_zret rfl dX7_isLetter_17
def q_X7_isLetter_16 (X : mh_X) : mh_PR := s_push (.int (0)) (q_X7_isLetter_17 X)
theorem b_X7_isLetter_16 {E : mh_E} {d mc ms : Nat} {Post : Option Value → mh_H → Prop} : mh_S (x_X7_isLetter E d mc ms Post) 16 (q_X7_isLetter_16 (x_X7_isLetter E d mc ms Post)) := sn_iconst dX7_isLetter_16 (by decide) b_X7_isLetter_17
def q_X7_isLetter_0 (X : mh_X) : mh_PR := s_il 0 (s_push (.int (97)) (s_if2 (fun x y => x < y) (q_X7_isLetter_16 X) (s_il 0 (s_push (.int (122)) (s_if2 (fun x y => y < x) (q_X7_isLetter_16 X) (s_push (.int (1)) (q_X7_isLetter_17 X)))))))
theorem b_X7_isLetter_0 {E : mh_E} {d mc ms : Nat} {Post : Option Value → mh_H → Prop} : mh_S (x_X7_isLetter E d mc ms Post) 0 (q_X7_isLetter_0 (x_X7_isLetter E d mc ms Post)) := sn_iload_n dX7_isLetter_0 rfl (sn_bipush dX7_isLetter_1 (by decide) (sn_icmp_lt (tgt := 16) dX7_isLetter_3 (by decide) (b_X7_isLetter_16) (sn_iload_n dX7_isLetter_6 rfl (sn_bipush dX7_isLetter_7 (by decide) (sn_icmp_gt (tgt := 16) dX7_isLetter_9 (by decide) (b_X7_isLetter_16) (sn_iconst dX7_isLetter_12 (by decide) (sn_goto (tgt := 17) dX7_isLetter_13 (by decide) (b_X7_isLetter_17))))))))
theorem m_X7_isLetter {E : mh_E} {d mc ms : Nat} {args : List Value} {h : mh_H} {Post : Option Value → mh_H → Prop} (lv : List (Option Value)) (hl : lv_args 0 args = mh_al 0 lv) (hs : (lg_sl args).length ≤ 1) (hG : q_X7_isLetter_0 (x_X7_isLetter E d mc ms Post) lv [] h 0 0) : mh_M E d mc ms yX7_isLetter args h Post := mh_M.of w_790 (by decide) (by decide) hl hs (b_X7_isLetter_0 _ _ _ _ _ hG)
theorem dX7_isDigit_0 : decode cX7_isDigit 0 = .ok (.iload_n 0, 1) := by decide +kernel
theorem dX7_isDigit_1 : decode cX7_isDigit 1 = .ok (.bipush 48, 2) := by decide +kernel
theorem dX7_isDigit_3 : decode cX7_isDigit 3 = .ok (.if_icmp .lt 13, 3) := by decide +kernel
theorem dX7_isDigit_6 : decode cX7_isDigit 6 = .ok (.iload_n 0, 1) := by decide +kernel
theorem dX7_isDigit_7 : decode cX7_isDigit 7 = .ok (.bipush 57, 2) := by decide +kernel
theorem dX7_isDigit_9 : decode cX7_isDigit 9 = .ok (.if_icmp .gt 7, 3) := by decide +kernel
theorem dX7_isDigit_12 : decode cX7_isDigit 12 = .ok (.iconst 1, 1) := by decide +kernel
theorem dX7_isDigit_13 : decode cX7_isDigit 13 = .ok (.goto 4, 3) := by decide +kernel
theorem dX7_isDigit_16 : decode cX7_isDigit 16 = .ok (.iconst 0, 1) := by decide +kernel
theorem dX7_isDigit_17 : decode cX7_isDigit 17 = .ok (.ireturn, 1) := by decide +kernel
abbrev x_X7_isDigit (E : mh_E) (d mc ms : Nat) (Post : Option Value → mh_H → Prop) : mh_X := (E, yX7_isDigit, cX7_isDigit, 1, (some .boolean), d, mc, ms, Post)
def q_X7_isDigit_17 (X : mh_X) : mh_PR := s_zret X
theorem b_X7_isDigit_17 {E : mh_E} {d mc ms : Nat} {Post : Option Value → mh_H → Prop} : mh_S (x_X7_isDigit E d mc ms Post) 17 (q_X7_isDigit_17 (x_X7_isDigit E d mc ms Post)) := sn_zret rfl dX7_isDigit_17
def q_X7_isDigit_16 (X : mh_X) : mh_PR := s_push (.int (0)) (q_X7_isDigit_17 X)
theorem b_X7_isDigit_16 {E : mh_E} {d mc ms : Nat} {Post : Option Value → mh_H → Prop} : mh_S (x_X7_isDigit E d mc ms Post) 16 (q_X7_isDigit_16 (x_X7_isDigit E d mc ms Post)) := sn_iconst dX7_isDigit_16 (by decide) b_X7_isDigit_17
def q_X7_isDigit_0 (X : mh_X) : mh_PR := s_il 0 (s_push (.int (48)) (s_if2 (fun x y => x < y) (q_X7_isDigit_16 X) (s_il 0 (s_push (.int (57)) (s_if2 (fun x y => y < x) (q_X7_isDigit_16 X) (s_push (.int (1)) (q_X7_isDigit_17 X)))))))
theorem b_X7_isDigit_0 {E : mh_E} {d mc ms : Nat} {Post : Option Value → mh_H → Prop} : mh_S (x_X7_isDigit E d mc ms Post) 0 (q_X7_isDigit_0 (x_X7_isDigit E d mc ms Post)) := sn_iload_n dX7_isDigit_0 rfl (sn_bipush dX7_isDigit_1 (by decide) (sn_icmp_lt (tgt := 16) dX7_isDigit_3 (by decide) (b_X7_isDigit_16) (sn_iload_n dX7_isDigit_6 rfl (sn_bipush dX7_isDigit_7 (by decide) (sn_icmp_gt (tgt := 16) dX7_isDigit_9 (by decide) (b_X7_isDigit_16) (sn_iconst dX7_isDigit_12 (by decide) (sn_goto (tgt := 17) dX7_isDigit_13 (by decide) (b_X7_isDigit_17))))))))
theorem m_X7_isDigit {E : mh_E} {d mc ms : Nat} {args : List Value} {h : mh_H} {Post : Option Value → mh_H → Prop} (lv : List (Option Value)) (hl : lv_args 0 args = mh_al 0 lv) (hs : (lg_sl args).length ≤ 1) (hG : q_X7_isDigit_0 (x_X7_isDigit E d mc ms Post) lv [] h 0 0) : mh_M E d mc ms yX7_isDigit args h Post := mh_M.of w_793 (by decide) (by decide) hl hs (b_X7_isDigit_0 _ _ _ _ _ hG)
theorem dX7_next_0 : decode cX7_next 0 = .ok (.aload_n 0, 1) := by decide +kernel
theorem dX7_next_1 : decode cX7_next 1 = .ok (.getfield 31, 3) := by decide +kernel
theorem dX7_next_4 : decode cX7_next 4 = .ok (.istore_n 1, 1) := by decide +kernel
theorem dX7_next_5 : decode cX7_next 5 = .ok (.aload_n 0, 1) := by decide +kernel
theorem dX7_next_6 : decode cX7_next 6 = .ok (.getfield 25, 3) := by decide +kernel
theorem dX7_next_9 : decode cX7_next 9 = .ok (.bipush (-2), 2) := by decide +kernel
theorem dX7_next_11 : decode cX7_next 11 = .ok (.if_icmp .eq 12, 3) := by decide +kernel
theorem dX7_next_14 : decode cX7_next 14 = .ok (.aload_n 0, 1) := by decide +kernel
theorem dX7_next_15 : decode cX7_next 15 = .ok (.getfield 25, 3) := by decide +kernel
theorem dX7_next_18 : decode cX7_next 18 = .ok (.bipush (-3), 2) := by decide +kernel
theorem dX7_next_20 : decode cX7_next 20 = .ok (.if_icmp .ne 7, 3) := by decide +kernel
theorem dX7_next_23 : decode cX7_next 23 = .ok (.iconst 1, 1) := by decide +kernel
theorem dX7_next_24 : decode cX7_next 24 = .ok (.goto 4, 3) := by decide +kernel
theorem dX7_next_27 : decode cX7_next 27 = .ok (.iconst 0, 1) := by decide +kernel
theorem dX7_next_28 : decode cX7_next 28 = .ok (.istore_n 2, 1) := by decide +kernel
theorem dX7_next_29 : decode cX7_next 29 = .ok (.aload_n 0, 1) := by decide +kernel
theorem dX7_next_30 : decode cX7_next 30 = .ok (.iload_n 1, 1) := by decide +kernel
theorem dX7_next_31 : decode cX7_next 31 = .ok (.putfield 28, 3) := by decide +kernel
theorem dX7_next_34 : decode cX7_next 34 = .ok (.aload_n 0, 1) := by decide +kernel
theorem dX7_next_35 : decode cX7_next 35 = .ok (.getfield 28, 3) := by decide +kernel
theorem dX7_next_38 : decode cX7_next 38 = .ok (.aload_n 0, 1) := by decide +kernel
theorem dX7_next_39 : decode cX7_next 39 = .ok (.getfield 18, 3) := by decide +kernel
theorem dX7_next_42 : decode cX7_next 42 = .ok (.if_icmp .ge 29, 3) := by decide +kernel
theorem dX7_next_45 : decode cX7_next 45 = .ok (.aload_n 0, 1) := by decide +kernel
theorem dX7_next_46 : decode cX7_next 46 = .ok (.aload_n 0, 1) := by decide +kernel
theorem dX7_next_47 : decode cX7_next 47 = .ok (.getfield 28, 3) := by decide +kernel
theorem dX7_next_50 : decode cX7_next 50 = .ok (.invokevirtual 73, 3) := by decide +kernel
theorem dX7_next_53 : decode cX7_next 53 = .ok (.bipush 32, 2) := by decide +kernel
theorem dX7_next_55 : decode cX7_next 55 = .ok (.if_icmp .ne 16, 3) := by decide +kernel
theorem dX7_next_58 : decode cX7_next 58 = .ok (.aload_n 0, 1) := by decide +kernel
theorem dX7_next_59 : decode cX7_next 59 = .ok (.dup, 1) := by decide +kernel
theorem dX7_next_60 : decode cX7_next 60 = .ok (.getfield 28, 3) := by decide +kernel
theorem dX7_next_63 : decode cX7_next 63 = .ok (.iconst 1, 1) := by decide +kernel
theorem dX7_next_64 : decode cX7_next 64 = .ok (.iadd, 1) := by decide +kernel
theorem dX7_next_65 : decode cX7_next 65 = .ok (.putfield 28, 3) := by decide +kernel
theorem dX7_next_68 : decode cX7_next 68 = .ok (.goto (-34), 3) := by decide +kernel
theorem dX7_next_71 : decode cX7_next 71 = .ok (.aload_n 0, 1) := by decide +kernel
theorem dX7_next_72 : decode cX7_next 72 = .ok (.aload_n 0, 1) := by decide +kernel
theorem dX7_next_73 : decode cX7_next 73 = .ok (.getfield 28, 3) := by decide +kernel
theorem dX7_next_76 : decode cX7_next 76 = .ok (.putfield 31, 3) := by decide +kernel
theorem dX7_next_79 : decode cX7_next 79 = .ok (.aload_n 0, 1) := by decide +kernel
theorem dX7_next_80 : decode cX7_next 80 = .ok (.aload_n 0, 1) := by decide +kernel
theorem dX7_next_81 : decode cX7_next 81 = .ok (.aload_n 0, 1) := by decide +kernel
theorem dX7_next_82 : decode cX7_next 82 = .ok (.getfield 28, 3) := by decide +kernel
theorem dX7_next_85 : decode cX7_next 85 = .ok (.invokevirtual 73, 3) := by decide +kernel
theorem dX7_next_88 : decode cX7_next 88 = .ok (.putfield 25, 3) := by decide +kernel
theorem dX7_next_91 : decode cX7_next 91 = .ok (.aload_n 0, 1) := by decide +kernel
theorem dX7_next_92 : decode cX7_next 92 = .ok (.getfield 25, 3) := by decide +kernel
theorem dX7_next_95 : decode cX7_next 95 = .ok (.invokestatic 77, 3) := by decide +kernel
theorem dX7_next_98 : decode cX7_next 98 = .ok (.ifCond .eq 47, 3) := by decide +kernel
theorem dX7_next_101 : decode cX7_next 101 = .ok (.aload_n 0, 1) := by decide +kernel
theorem dX7_next_102 : decode cX7_next 102 = .ok (.bipush (-2), 2) := by decide +kernel
theorem dX7_next_104 : decode cX7_next 104 = .ok (.putfield 25, 3) := by decide +kernel
theorem dX7_next_107 : decode cX7_next 107 = .ok (.aload_n 0, 1) := by decide +kernel
theorem dX7_next_108 : decode cX7_next 108 = .ok (.getfield 31, 3) := by decide +kernel
theorem dX7_next_111 : decode cX7_next 111 = .ok (.aload_n 0, 1) := by decide +kernel
theorem dX7_next_112 : decode cX7_next 112 = .ok (.getfield 18, 3) := by decide +kernel
theorem dX7_next_115 : decode cX7_next 115 = .ok (.if_icmp .ge 95, 3) := by decide +kernel
theorem dX7_next_118 : decode cX7_next 118 = .ok (.aload_n 0, 1) := by decide +kernel
theorem dX7_next_119 : decode cX7_next 119 = .ok (.aload_n 0, 1) := by decide +kernel
theorem dX7_next_120 : decode cX7_next 120 = .ok (.getfield 31, 3) := by decide +kernel
theorem dX7_next_123 : decode cX7_next 123 = .ok (.invokevirtual 73, 3) := by decide +kernel
theorem dX7_next_126 : decode cX7_next 126 = .ok (.invokestatic 77, 3) := by decide +kernel
theorem dX7_next_129 : decode cX7_next 129 = .ok (.ifCond .eq 81, 3) := by decide +kernel
theorem dX7_next_132 : decode cX7_next 132 = .ok (.aload_n 0, 1) := by decide +kernel
theorem dX7_next_133 : decode cX7_next 133 = .ok (.dup, 1) := by decide +kernel
theorem dX7_next_134 : decode cX7_next 134 = .ok (.getfield 31, 3) := by decide +kernel
theorem dX7_next_137 : decode cX7_next 137 = .ok (.iconst 1, 1) := by decide +kernel
theorem dX7_next_138 : decode cX7_next 138 = .ok (.iadd, 1) := by decide +kernel
theorem dX7_next_139 : decode cX7_next 139 = .ok (.putfield 31, 3) := by decide +kernel
theorem dX7_next_142 : decode cX7_next 142 = .ok (.goto (-35), 3) := by decide +kernel
theorem dX7_next_145 : decode cX7_next 145 = .ok (.aload_n 0, 1) := by decide +kernel
theorem dX7_next_146 : decode cX7_next 146 = .ok (.getfield 25, 3) := by decide +kernel
theorem dX7_next_149 : decode cX7_next 149 = .ok (.invokestatic 81, 3) := by decide +kernel
theorem dX7_next_152 : decode cX7_next 152 = .ok (.ifCond .eq 47, 3) := by decide +kernel
theorem dX7_next_155 : decode cX7_next 155 = .ok (.aload_n 0, 1) := by decide +kernel
theorem dX7_next_156 : decode cX7_next 156 = .ok (.bipush (-3), 2) := by decide +kernel
theorem dX7_next_158 : decode cX7_next 158 = .ok (.putfield 25, 3) := by decide +kernel
theorem dX7_next_161 : decode cX7_next 161 = .ok (.aload_n 0, 1) := by decide +kernel
theorem dX7_next_162 : decode cX7_next 162 = .ok (.getfield 31, 3) := by decide +kernel
theorem dX7_next_165 : decode cX7_next 165 = .ok (.aload_n 0, 1) := by decide +kernel
theorem dX7_next_166 : decode cX7_next 166 = .ok (.getfield 18, 3) := by decide +kernel
theorem dX7_next_169 : decode cX7_next 169 = .ok (.if_icmp .ge 41, 3) := by decide +kernel
theorem dX7_next_172 : decode cX7_next 172 = .ok (.aload_n 0, 1) := by decide +kernel
theorem dX7_next_173 : decode cX7_next 173 = .ok (.aload_n 0, 1) := by decide +kernel
theorem dX7_next_174 : decode cX7_next 174 = .ok (.getfield 31, 3) := by decide +kernel
theorem dX7_next_177 : decode cX7_next 177 = .ok (.invokevirtual 73, 3) := by decide +kernel
theorem dX7_next_180 : decode cX7_next 180 = .ok (.invokestatic 81, 3) := by decide +kernel
theorem dX7_next_183 : decode cX7_next 183 = .ok (.ifCond .eq 27, 3) := by decide +kernel
theorem dX7_next_186 : decode cX7_next 186 = .ok (.aload_n 0, 1) := by decide +kernel
theorem dX7_next_187 : decode cX7_next 187 = .ok (.dup, 1) := by decide +kernel
theorem dX7_next_188 : decode cX7_next 188 = .ok (.getfield 31, 3) := by decide +kernel
theorem dX7_next_191 : decode cX7_next 191 = .ok (.iconst 1, 1) := by decide +kernel
theorem dX7_next_192 : decode cX7_next 192 = .ok (.iadd, 1) := by decide +kernel
theorem dX7_next_193 : decode cX7_next 193 = .ok (.putfield 31, 3) := by decide +kernel
theorem dX7_next_196 : decode cX7_next 196 = .ok (.goto (-35), 3) := by decide +kernel
theorem dX7_next_199 : decode cX7_next 199 = .ok (.aload_n 0, 1) := by decide +kernel
theorem dX7_next_200 : decode cX7_next 200 = .ok (.dup, 1) := by decide +kernel
theorem dX7_next_201 : decode cX7_next 201 = .ok (.getfield 31, 3) := by decide +kernel
theorem dX7_next_204 : decode cX7_next 204 = .ok (.iconst 1, 1) := by decide +kernel
theorem dX7_next_205 : decode cX7_next 205 = .ok (.iadd, 1) := by decide +kernel
theorem dX7_next_206 : decode cX7_next 206 = .ok (.putfield 31, 3) := by decide +kernel
theorem dX7_next_209 : decode cX7_next 209 = .ok (.return_, 1) := by decide +kernel
theorem dX7_next_210 : decode cX7_next 210 = .ok (.iload_n 2, 1) := by decide +kernel
theorem dX7_next_211 : decode cX7_next 211 = .ok (.ifCond .eq 11, 3) := by decide +kernel
theorem dX7_next_214 : decode cX7_next 214 = .ok (.aload_n 0, 1) := by decide +kernel
theorem dX7_next_215 : decode cX7_next 215 = .ok (.getfield 28, 3) := by decide +kernel
theorem dX7_next_218 : decode cX7_next 218 = .ok (.iload_n 1, 1) := by decide +kernel
theorem dX7_next_219 : decode cX7_next 219 = .ok (.if_icmp .eq 25, 3) := by decide +kernel
theorem dX7_next_222 : decode cX7_next 222 = .ok (.aload_n 0, 1) := by decide +kernel
theorem dX7_next_223 : decode cX7_next 223 = .ok (.getfield 25, 3) := by decide +kernel
theorem dX7_next_226 : decode cX7_next 226 = .ok (.bipush (-3), 2) := by decide +kernel
theorem dX7_next_228 : decode cX7_next 228 = .ok (.if_icmp .ne 22, 3) := by decide +kernel
theorem dX7_next_231 : decode cX7_next 231 = .ok (.aload_n 0, 1) := by decide +kernel
theorem dX7_next_232 : decode cX7_next 232 = .ok (.getfield 31, 3) := by decide +kernel
theorem dX7_next_235 : decode cX7_next 235 = .ok (.aload_n 0, 1) := by decide +kernel
theorem dX7_next_236 : decode cX7_next 236 = .ok (.getfield 28, 3) := by decide +kernel
theorem dX7_next_239 : decode cX7_next 239 = .ok (.isub, 1) := by decide +kernel
theorem dX7_next_240 : decode cX7_next 240 = .ok (.iconst 4, 1) := by decide +kernel
theorem dX7_next_241 : decode cX7_next 241 = .ok (.if_icmp .le 9, 3) := by decide +kernel
theorem dX7_next_244 : decode cX7_next 244 = .ok (.aload_n 0, 1) := by decide +kernel
theorem dX7_next_245 : decode cX7_next 245 = .ok (.bipush (-4), 2) := by decide +kernel
theorem dX7_next_247 : decode cX7_next 247 = .ok (.putfield 25, 3) := by decide +kernel
theorem dX7_next_250 : decode cX7_next 250 = .ok (.return_, 1) := by decide +kernel
abbrev x_X7_next (E : mh_E) (d mc ms : Nat) (Post : Option Value → mh_H → Prop) : mh_X := (E, yX7_next, cX7_next, 3, none, d, mc, ms, Post)
def q_X7_next_250 (X : mh_X) : mh_PR := s_vret X
theorem b_X7_next_250 {E : mh_E} {d mc ms : Nat} {Post : Option Value → mh_H → Prop} : mh_S (x_X7_next E d mc ms Post) 250 (q_X7_next_250 (x_X7_next E d mc ms Post)) := sn_vret rfl dX7_next_250
def q_X7_next_244 (X : mh_X) : mh_PR := s_al 0 (s_push (.int (-4)) (s_pi 7 4 (q_X7_next_250 X)))
theorem b_X7_next_244 {E : mh_E} {d mc ms : Nat} {Post : Option Value → mh_H → Prop} : mh_S (x_X7_next E d mc ms Post) 244 (q_X7_next_244 (x_X7_next E d mc ms Post)) := sn_aload_n dX7_next_244 rfl (sn_bipush dX7_next_245 (by decide) (sn_puti clX7 (by decide) w_253 rfl rfl dX7_next_247 b_X7_next_250))
def q_X7_next_222 (X : mh_X) : mh_PR := s_al 0 (s_gi 7 4 (s_push (.int (-3)) (s_if2 (fun x y => ¬ x = y) (q_X7_next_250 X) (s_al 0 (s_gi 7 6 (s_al 0 (s_gi 7 5 (s_bin (fun x y => x - y) (s_push (.int (4)) (s_if2 (fun x y => x ≤ y) (q_X7_next_250 X) (q_X7_next_244 X)))))))))))
theorem b_X7_next_222 {E : mh_E} {d mc ms : Nat} {Post : Option Value → mh_H → Prop} : mh_S (x_X7_next E d mc ms Post) 222 (q_X7_next_222 (x_X7_next E d mc ms Post)) := sn_aload_n dX7_next_222 rfl (sn_geti clX7 (by decide) w_253 dX7_next_223 (sn_bipush dX7_next_226 (by decide) (sn_icmp_ne (tgt := 250) dX7_next_228 (by decide) (b_X7_next_250) (sn_aload_n dX7_next_231 rfl (sn_geti clX7 (by decide) w_255 dX7_next_232 (sn_aload_n dX7_next_235 rfl (sn_geti clX7 (by decide) w_254 dX7_next_236 (sn_isub dX7_next_239 (sn_iconst dX7_next_240 (by decide) (sn_icmp_le (tgt := 250) dX7_next_241 (by decide) (b_X7_next_250) (b_X7_next_244)))))))))))
def q_X7_next_210 (X : mh_X) : mh_PR := s_il 2 (s_if1 (fun x => x = 0) (q_X7_next_222 X) (s_al 0 (s_gi 7 5 (s_il 1 (s_if2 (fun x y => x = y) (q_X7_next_244 X) (q_X7_next_222 X))))))
theorem b_X7_next_210 {E : mh_E} {d mc ms : Nat} {Post : Option Value → mh_H → Prop} : mh_S (x_X7_next E d mc ms Post) 210 (q_X7_next_210 (x_X7_next E d mc ms Post)) := sn_iload_n dX7_next_210 rfl (sn_if_eq (tgt := 222) dX7_next_211 (by decide) (b_X7_next_222) (sn_aload_n dX7_next_214 rfl (sn_geti clX7 (by decide) w_254 dX7_next_215 (sn_iload_n dX7_next_218 rfl (sn_icmp_eq (tgt := 244) dX7_next_219 (by decide) (b_X7_next_244) (b_X7_next_222))))))
def q_X7_next_161 (X : mh_X) : mh_PR := s_al 0 (s_gi 7 6 (s_al 0 (s_gi 7 2 (s_if2 (fun x y => y ≤ x) (q_X7_next_210 X) (s_al 0 (s_al 0 (s_gi 7 6 (s_cv X yX7_byteAt 7 1 (s_cs X yX7_isDigit 1 (s_if1 (fun x => x = 0) (q_X7_next_210 X) (s_al 0 (s_dup (s_gi 7 6 (s_push (.int (1)) (s_bin (fun x y => x + y) (s_pi 7 6 (mh_G X 161)))))))))))))))))
theorem b_X7_next_161 {E : mh_E} {d mc ms : Nat} {Post : Option Value → mh_H → Prop} : mh_S (x_X7_next E d mc ms Post) 161 (q_X7_next_161 (x_X7_next E d mc ms Post)) := sn_aload_n dX7_next_161 rfl (sn_geti clX7 (by decide) w_255 dX7_next_162 (sn_aload_n dX7_next_165 rfl (sn_geti clX7 (by decide) w_249 dX7_next_166 (sn_icmp_ge (tgt := 210) dX7_next_169 (by decide) (b_X7_next_210) (sn_aload_n dX7_next_172 rfl (sn_aload_n dX7_next_173 rfl (sn_geti clX7 (by decide) w_255 dX7_next_174 (sn_cv w_784 w_786 w_10 w_63 rfl nm_X7_byteAt dX7_next_177 (sn_cs w_791 w_792 w_63 nm_X7_isDigit dX7_next_180 (sn_if_eq (tgt := 210) dX7_next_183 (by decide) (b_X7_next_210) (sn_aload_n dX7_next_186 rfl (sn_dup dX7_next_187 (sn_geti clX7 (by decide) w_255 dX7_next_188 (sn_iconst dX7_next_191 (by decide) (sn_iadd dX7_next_192 (sn_puti clX7 (by decide) w_255 rfl rfl dX7_next_193 (sn_goto (tgt := 161) dX7_next_196 (by decide) (mh_S.G))))))))))))))))))
def q_X7_next_107 (X : mh_X) : mh_PR := s_al 0 (s_gi 7 6 (s_al 0 (s_gi 7 2 (s_if2 (fun x y => y ≤ x) (q_X7_next_210 X) (s_al 0 (s_al 0 (s_gi 7 6 (s_cv X yX7_byteAt 7 1 (s_cs X yX7_isLetter 1 (s_if1 (fun x => x = 0) (q_X7_next_210 X) (s_al 0 (s_dup (s_gi 7 6 (s_push (.int (1)) (s_bin (fun x y => x + y) (s_pi 7 6 (mh_G X 107)))))))))))))))))
theorem b_X7_next_107 {E : mh_E} {d mc ms : Nat} {Post : Option Value → mh_H → Prop} : mh_S (x_X7_next E d mc ms Post) 107 (q_X7_next_107 (x_X7_next E d mc ms Post)) := sn_aload_n dX7_next_107 rfl (sn_geti clX7 (by decide) w_255 dX7_next_108 (sn_aload_n dX7_next_111 rfl (sn_geti clX7 (by decide) w_249 dX7_next_112 (sn_icmp_ge (tgt := 210) dX7_next_115 (by decide) (b_X7_next_210) (sn_aload_n dX7_next_118 rfl (sn_aload_n dX7_next_119 rfl (sn_geti clX7 (by decide) w_255 dX7_next_120 (sn_cv w_784 w_786 w_10 w_63 rfl nm_X7_byteAt dX7_next_123 (sn_cs w_788 w_789 w_63 nm_X7_isLetter dX7_next_126 (sn_if_eq (tgt := 210) dX7_next_129 (by decide) (b_X7_next_210) (sn_aload_n dX7_next_132 rfl (sn_dup dX7_next_133 (sn_geti clX7 (by decide) w_255 dX7_next_134 (sn_iconst dX7_next_137 (by decide) (sn_iadd dX7_next_138 (sn_puti clX7 (by decide) w_255 rfl rfl dX7_next_139 (sn_goto (tgt := 107) dX7_next_142 (by decide) (mh_S.G))))))))))))))))))
def q_X7_next_71 (X : mh_X) : mh_PR := s_al 0 (s_al 0 (s_gi 7 5 (s_pi 7 6 (s_al 0 (s_al 0 (s_al 0 (s_gi 7 5 (s_cv X yX7_byteAt 7 1 (s_pi 7 4 (s_al 0 (s_gi 7 4 (s_cs X yX7_isLetter 1 (s_if1 (fun x => x = 0) (s_al 0 (s_gi 7 4 (s_cs X yX7_isDigit 1 (s_if1 (fun x => x = 0) (s_al 0 (s_dup (s_gi 7 6 (s_push (.int (1)) (s_bin (fun x y => x + y) (s_pi 7 6 (s_vret X))))))) (s_al 0 (s_push (.int (-3)) (s_pi 7 4 (mh_G X 161)))))))) (s_al 0 (s_push (.int (-2)) (s_pi 7 4 (mh_G X 107)))))))))))))))))
theorem b_X7_next_71 {E : mh_E} {d mc ms : Nat} {Post : Option Value → mh_H → Prop} : mh_S (x_X7_next E d mc ms Post) 71 (q_X7_next_71 (x_X7_next E d mc ms Post)) := sn_aload_n dX7_next_71 rfl (sn_aload_n dX7_next_72 rfl (sn_geti clX7 (by decide) w_254 dX7_next_73 (sn_puti clX7 (by decide) w_255 rfl rfl dX7_next_76 (sn_aload_n dX7_next_79 rfl (sn_aload_n dX7_next_80 rfl (sn_aload_n dX7_next_81 rfl (sn_geti clX7 (by decide) w_254 dX7_next_82 (sn_cv w_784 w_786 w_10 w_63 rfl nm_X7_byteAt dX7_next_85 (sn_puti clX7 (by decide) w_253 rfl rfl dX7_next_88 (sn_aload_n dX7_next_91 rfl (sn_geti clX7 (by decide) w_253 dX7_next_92 (sn_cs w_788 w_789 w_63 nm_X7_isLetter dX7_next_95 (sn_if_eq (tgt := 145) dX7_next_98 (by decide) (sn_aload_n dX7_next_145 rfl (sn_geti clX7 (by decide) w_253 dX7_next_146 (sn_cs w_791 w_792 w_63 nm_X7_isDigit dX7_next_149 (sn_if_eq (tgt := 199) dX7_next_152 (by decide) (sn_aload_n dX7_next_199 rfl (sn_dup dX7_next_200 (sn_geti clX7 (by decide) w_255 dX7_next_201 (sn_iconst dX7_next_204 (by decide) (sn_iadd dX7_next_205 (sn_puti clX7 (by decide) w_255 rfl rfl dX7_next_206 (sn_vret rfl dX7_next_209))))))) (sn_aload_n dX7_next_155 rfl (sn_bipush dX7_next_156 (by decide) (sn_puti clX7 (by decide) w_253 rfl rfl dX7_next_158 mh_S.G))))))) (sn_aload_n dX7_next_101 rfl (sn_bipush dX7_next_102 (by decide) (sn_puti clX7 (by decide) w_253 rfl rfl dX7_next_104 mh_S.G))))))))))))))))
def q_X7_next_34 (X : mh_X) : mh_PR := s_al 0 (s_gi 7 5 (s_al 0 (s_gi 7 2 (s_if2 (fun x y => y ≤ x) (q_X7_next_71 X) (s_al 0 (s_al 0 (s_gi 7 5 (s_cv X yX7_byteAt 7 1 (s_push (.int (32)) (s_if2 (fun x y => ¬ x = y) (q_X7_next_71 X) (s_al 0 (s_dup (s_gi 7 5 (s_push (.int (1)) (s_bin (fun x y => x + y) (s_pi 7 5 (mh_G X 34)))))))))))))))))
theorem b_X7_next_34 {E : mh_E} {d mc ms : Nat} {Post : Option Value → mh_H → Prop} : mh_S (x_X7_next E d mc ms Post) 34 (q_X7_next_34 (x_X7_next E d mc ms Post)) := sn_aload_n dX7_next_34 rfl (sn_geti clX7 (by decide) w_254 dX7_next_35 (sn_aload_n dX7_next_38 rfl (sn_geti clX7 (by decide) w_249 dX7_next_39 (sn_icmp_ge (tgt := 71) dX7_next_42 (by decide) (b_X7_next_71) (sn_aload_n dX7_next_45 rfl (sn_aload_n dX7_next_46 rfl (sn_geti clX7 (by decide) w_254 dX7_next_47 (sn_cv w_784 w_786 w_10 w_63 rfl nm_X7_byteAt dX7_next_50 (sn_bipush dX7_next_53 (by decide) (sn_icmp_ne (tgt := 71) dX7_next_55 (by decide) (b_X7_next_71) (sn_aload_n dX7_next_58 rfl (sn_dup dX7_next_59 (sn_geti clX7 (by decide) w_254 dX7_next_60 (sn_iconst dX7_next_63 (by decide) (sn_iadd dX7_next_64 (sn_puti clX7 (by decide) w_254 rfl rfl dX7_next_65 (sn_goto (tgt := 34) dX7_next_68 (by decide) (mh_S.G))))))))))))))))))
def q_X7_next_28 (X : mh_X) : mh_PR := s_is 2 (s_al 0 (s_il 1 (s_pi 7 5 (mh_G X 34))))
theorem b_X7_next_28 {E : mh_E} {d mc ms : Nat} {Post : Option Value → mh_H → Prop} : mh_S (x_X7_next E d mc ms Post) 28 (q_X7_next_28 (x_X7_next E d mc ms Post)) := sn_istore_n dX7_next_28 rfl (Nat.le_of_ble_eq_true rfl) (sn_aload_n dX7_next_29 rfl (sn_iload_n dX7_next_30 rfl (sn_puti clX7 (by decide) w_254 rfl rfl dX7_next_31 mh_S.G)))
def q_X7_next_23 (X : mh_X) : mh_PR := s_push (.int (1)) (q_X7_next_28 X)
theorem b_X7_next_23 {E : mh_E} {d mc ms : Nat} {Post : Option Value → mh_H → Prop} : mh_S (x_X7_next E d mc ms Post) 23 (q_X7_next_23 (x_X7_next E d mc ms Post)) := sn_iconst dX7_next_23 (by decide) (sn_goto (tgt := 28) dX7_next_24 (by decide) (b_X7_next_28))
def q_X7_next_0 (X : mh_X) : mh_PR := s_al 0 (s_gi 7 6 (s_is 1 (s_al 0 (s_gi 7 4 (s_push (.int (-2)) (s_if2 (fun x y => x = y) (q_X7_next_23 X) (s_al 0 (s_gi 7 4 (s_push (.int (-3)) (s_if2 (fun x y => ¬ x = y) (s_push (.int (0)) (q_X7_next_28 X)) (q_X7_next_23 X)))))))))))
theorem b_X7_next_0 {E : mh_E} {d mc ms : Nat} {Post : Option Value → mh_H → Prop} : mh_S (x_X7_next E d mc ms Post) 0 (q_X7_next_0 (x_X7_next E d mc ms Post)) := sn_aload_n dX7_next_0 rfl (sn_geti clX7 (by decide) w_255 dX7_next_1 (sn_istore_n dX7_next_4 rfl (Nat.le_of_ble_eq_true rfl) (sn_aload_n dX7_next_5 rfl (sn_geti clX7 (by decide) w_253 dX7_next_6 (sn_bipush dX7_next_9 (by decide) (sn_icmp_eq (tgt := 23) dX7_next_11 (by decide) (b_X7_next_23) (sn_aload_n dX7_next_14 rfl (sn_geti clX7 (by decide) w_253 dX7_next_15 (sn_bipush dX7_next_18 (by decide) (sn_icmp_ne (tgt := 27) dX7_next_20 (by decide) (sn_iconst dX7_next_27 (by decide) b_X7_next_28) (b_X7_next_23)))))))))))
theorem m_X7_next {E : mh_E} {d mc ms : Nat} {args : List Value} {h : mh_H} {Post : Option Value → mh_H → Prop} (lv : List (Option Value)) (hl : lv_args 0 args = mh_al 0 lv) (hs : (lg_sl args).length ≤ 3) (hG : q_X7_next_0 (x_X7_next E d mc ms Post) lv [] h 0 0) : mh_M E d mc ms yX7_next args h Post := mh_M.of w_783 (by decide) (by decide) hl hs (b_X7_next_0 _ _ _ _ _ hG)
theorem dX7_fail_0 : decode cX7_fail 0 = .ok (.aload_n 0, 1) := by decide +kernel
theorem dX7_fail_1 : decode cX7_fail 1 = .ok (.getfield 22, 3) := by decide +kernel
theorem dX7_fail_4 : decode cX7_fail 4 = .ok (.ifCond .ge 11, 3) := by decide +kernel
theorem dX7_fail_7 : decode cX7_fail 7 = .ok (.aload_n 0, 1) := by decide +kernel
theorem dX7_fail_8 : decode cX7_fail 8 = .ok (.aload_n 0, 1) := by decide +kernel
theorem dX7_fail_9 : decode cX7_fail 9 = .ok (.getfield 28, 3) := by decide +kernel
theorem dX7_fail_12 : decode cX7_fail 12 = .ok (.putfield 22, 3) := by decide +kernel
theorem dX7_fail_15 : decode cX7_fail 15 = .ok (.aload_n 0, 1) := by decide +kernel
theorem dX7_fail_16 : decode cX7_fail 16 = .ok (.iconst (-1), 1) := by decide +kernel
theorem dX7_fail_17 : decode cX7_fail 17 = .ok (.putfield 25, 3) := by decide +kernel
theorem dX7_fail_20 : decode cX7_fail 20 = .ok (.return_, 1) := by decide +kernel
abbrev x_X7_fail (E : mh_E) (d mc ms : Nat) (Post : Option Value → mh_H → Prop) : mh_X := (E, yX7_fail, cX7_fail, 1, none, d, mc, ms, Post)
def q_X7_fail_15 (X : mh_X) : mh_PR := s_al 0 (s_push (.int (-1)) (s_pi 7 4 (s_vret X)))
theorem b_X7_fail_15 {E : mh_E} {d mc ms : Nat} {Post : Option Value → mh_H → Prop} : mh_S (x_X7_fail E d mc ms Post) 15 (q_X7_fail_15 (x_X7_fail E d mc ms Post)) := sn_aload_n dX7_fail_15 rfl (sn_iconst dX7_fail_16 (by decide) (sn_puti clX7 (by decide) w_253 rfl rfl dX7_fail_17 (sn_vret rfl dX7_fail_20)))
def q_X7_fail_0 (X : mh_X) : mh_PR := s_al 0 (s_gi 7 3 (s_if1 (fun x => 0 ≤ x) (q_X7_fail_15 X) (s_al 0 (s_al 0 (s_gi 7 5 (s_pi 7 3 (q_X7_fail_15 X)))))))
theorem b_X7_fail_0 {E : mh_E} {d mc ms : Nat} {Post : Option Value → mh_H → Prop} : mh_S (x_X7_fail E d mc ms Post) 0 (q_X7_fail_0 (x_X7_fail E d mc ms Post)) := sn_aload_n dX7_fail_0 rfl (sn_geti clX7 (by decide) w_251 dX7_fail_1 (sn_if_ge (tgt := 15) dX7_fail_4 (by decide) (b_X7_fail_15) (sn_aload_n dX7_fail_7 rfl (sn_aload_n dX7_fail_8 rfl (sn_geti clX7 (by decide) w_254 dX7_fail_9 (sn_puti clX7 (by decide) w_251 rfl rfl dX7_fail_12 b_X7_fail_15))))))
theorem m_X7_fail {E : mh_E} {d mc ms : Nat} {args : List Value} {h : mh_H} {Post : Option Value → mh_H → Prop} (lv : List (Option Value)) (hl : lv_args 0 args = mh_al 0 lv) (hs : (lg_sl args).length ≤ 1) (hG : q_X7_fail_0 (x_X7_fail E d mc ms Post) lv [] h 0 0) : mh_M E d mc ms yX7_fail args h Post := mh_M.of w_859 (by decide) (by decide) hl hs (b_X7_fail_0 _ _ _ _ _ hG)
theorem dX7_put_0 : decode cX7_put 0 = .ok (.aload_n 0, 1) := by decide +kernel
theorem dX7_put_1 : decode cX7_put 1 = .ok (.getfield 37, 3) := by decide +kernel
theorem dX7_put_4 : decode cX7_put 4 = .ok (.bipush 96, 2) := by decide +kernel
theorem dX7_put_6 : decode cX7_put 6 = .ok (.if_icmp .ge 23, 3) := by decide +kernel
theorem dX7_put_9 : decode cX7_put 9 = .ok (.aload_n 0, 1) := by decide +kernel
theorem dX7_put_10 : decode cX7_put 10 = .ok (.getfield 15, 3) := by decide +kernel
theorem dX7_put_13 : decode cX7_put 13 = .ok (.aload_n 0, 1) := by decide +kernel
theorem dX7_put_14 : decode cX7_put 14 = .ok (.getfield 37, 3) := by decide +kernel
theorem dX7_put_17 : decode cX7_put 17 = .ok (.iload_n 1, 1) := by decide +kernel
theorem dX7_put_18 : decode cX7_put 18 = .ok (.iastore, 1) := by decide +kernel
theorem dX7_put_19 : decode cX7_put 19 = .ok (.aload_n 0, 1) := by decide +kernel
theorem dX7_put_20 : decode cX7_put 20 = .ok (.dup, 1) := by decide +kernel
theorem dX7_put_21 : decode cX7_put 21 = .ok (.getfield 37, 3) := by decide +kernel
theorem dX7_put_24 : decode cX7_put 24 = .ok (.iconst 1, 1) := by decide +kernel
theorem dX7_put_25 : decode cX7_put 25 = .ok (.iadd, 1) := by decide +kernel
theorem dX7_put_26 : decode cX7_put 26 = .ok (.putfield 37, 3) := by decide +kernel
theorem dX7_put_29 : decode cX7_put 29 = .ok (.return_, 1) := by decide +kernel
abbrev x_X7_put (E : mh_E) (d mc ms : Nat) (Post : Option Value → mh_H → Prop) : mh_X := (E, yX7_put, cX7_put, 2, none, d, mc, ms, Post)
def q_X7_put_29 (X : mh_X) : mh_PR := s_vret X
theorem b_X7_put_29 {E : mh_E} {d mc ms : Nat} {Post : Option Value → mh_H → Prop} : mh_S (x_X7_put E d mc ms Post) 29 (q_X7_put_29 (x_X7_put E d mc ms Post)) := sn_vret rfl dX7_put_29
def q_X7_put_0 (X : mh_X) : mh_PR := s_al 0 (s_gi 7 8 (s_push (.int (96)) (s_if2 (fun x y => y ≤ x) (q_X7_put_29 X) (s_al 0 (s_gr 7 1 (s_al 0 (s_gi 7 8 (s_il 1 (s_ast 0 (fun x => x) (s_al 0 (s_dup (s_gi 7 8 (s_push (.int (1)) (s_bin (fun x y => x + y) (s_pi 7 8 (q_X7_put_29 X))))))))))))))))
theorem b_X7_put_0 {E : mh_E} {d mc ms : Nat} {Post : Option Value → mh_H → Prop} : mh_S (x_X7_put E d mc ms Post) 0 (q_X7_put_0 (x_X7_put E d mc ms Post)) := sn_aload_n dX7_put_0 rfl (sn_geti clX7 (by decide) w_257 dX7_put_1 (sn_bipush dX7_put_4 (by decide) (sn_icmp_ge (tgt := 29) dX7_put_6 (by decide) (b_X7_put_29) (sn_aload_n dX7_put_9 rfl (sn_getr clX7 (by decide) w_248 dX7_put_10 (sn_aload_n dX7_put_13 rfl (sn_geti clX7 (by decide) w_257 dX7_put_14 (sn_iload_n dX7_put_17 rfl (sn_iastore dX7_put_18 (sn_aload_n dX7_put_19 rfl (sn_dup dX7_put_20 (sn_geti clX7 (by decide) w_257 dX7_put_21 (sn_iconst dX7_put_24 (by decide) (sn_iadd dX7_put_25 (sn_puti clX7 (by decide) w_257 rfl rfl dX7_put_26 b_X7_put_29)))))))))))))))
theorem m_X7_put {E : mh_E} {d mc ms : Nat} {args : List Value} {h : mh_H} {Post : Option Value → mh_H → Prop} (lv : List (Option Value)) (hl : lv_args 0 args = mh_al 0 lv) (hs : (lg_sl args).length ≤ 2) (hG : q_X7_put_0 (x_X7_put E d mc ms Post) lv [] h 0 0) : mh_M E d mc ms yX7_put args h Post := mh_M.of w_875 (by decide) (by decide) hl hs (b_X7_put_0 _ _ _ _ _ hG)
theorem dX7_keyName_0 : decode cX7_keyName 0 = .ok (.iload_n 0, 1) := by decide +kernel
theorem dX7_keyName_1 : decode cX7_keyName 1 = .ok (.lookupswitch 33 #[(0, 27), (1, 30)], 27) := by decide +kernel
theorem dX7_keyName_28 : decode cX7_keyName 28 = .ok (.ldc 84, 2) := by decide +kernel
theorem dX7_keyName_30 : decode cX7_keyName 30 = .ok (.areturn, 1) := by decide +kernel
theorem dX7_keyName_31 : decode cX7_keyName 31 = .ok (.ldc 86, 2) := by decide +kernel
theorem dX7_keyName_33 : decode cX7_keyName 33 = .ok (.areturn, 1) := by decide +kernel
theorem dX7_keyName_34 : decode cX7_keyName 34 = .ok (.ldc 88, 2) := by decide +kernel
theorem dX7_keyName_36 : decode cX7_keyName 36 = .ok (.areturn, 1) := by decide +kernel
abbrev x_X7_keyName (E : mh_E) (d mc ms : Nat) (Post : Option Value → mh_H → Prop) : mh_X := (E, yX7_keyName, cX7_keyName, 1, (some (.object "java/lang/String")), d, mc, ms, Post)
def q_X7_keyName_0 (X : mh_X) : mh_PR := s_il 0 (s_sw [((0 : Int32), s_ldcs X 0 (s_aret X)), ((1 : Int32), s_ldcs X 1 (s_aret X))] (s_ldcs X 2 (s_aret X)))
theorem b_X7_keyName_0 {E : mh_E} {d mc ms : Nat} {Post : Option Value → mh_H → Prop} : mh_S (x_X7_keyName E d mc ms Post) 0 (q_X7_keyName_0 (x_X7_keyName E d mc ms Post)) := sn_iload_n dX7_keyName_0 rfl (sn_lookup (tgt := 34) (ts := [(0, 27, 28), (1, 30, 31)]) dX7_keyName_1 (by decide +kernel) (by decide +kernel) (by decide +kernel) (sw_cons (sn_ldcs (by decide) rfl rfl dX7_keyName_28 (sn_aret rfl (Or.inl ⟨_, rfl⟩) dX7_keyName_30)) (sw_cons (sn_ldcs (by decide) rfl rfl dX7_keyName_31 (sn_aret rfl (Or.inl ⟨_, rfl⟩) dX7_keyName_33)) sw_nil)) (by decide) (sn_ldcs (by decide) rfl rfl dX7_keyName_34 (sn_aret rfl (Or.inl ⟨_, rfl⟩) dX7_keyName_36)))
theorem m_X7_keyName {E : mh_E} {d mc ms : Nat} {args : List Value} {h : mh_H} {Post : Option Value → mh_H → Prop} (lv : List (Option Value)) (hl : lv_args 0 args = mh_al 0 lv) (hs : (lg_sl args).length ≤ 1) (hG : q_X7_keyName_0 (x_X7_keyName E d mc ms Post) lv [] h 0 0) : mh_M E d mc ms yX7_keyName args h Post := mh_M.of w_800 (by decide) (by decide) hl hs (b_X7_keyName_0 _ _ _ _ _ hG)
theorem dX7_namesOf_0 : decode cX7_namesOf 0 = .ok (.iload_n 0, 1) := by decide +kernel
theorem dX7_namesOf_1 : decode cX7_namesOf 1 = .ok (.lookupswitch 33 #[(0, 27), (1, 30)], 27) := by decide +kernel
theorem dX7_namesOf_28 : decode cX7_namesOf 28 = .ok (.ldc 90, 2) := by decide +kernel
theorem dX7_namesOf_30 : decode cX7_namesOf 30 = .ok (.areturn, 1) := by decide +kernel
theorem dX7_namesOf_31 : decode cX7_namesOf 31 = .ok (.ldc 92, 2) := by decide +kernel
theorem dX7_namesOf_33 : decode cX7_namesOf 33 = .ok (.areturn, 1) := by decide +kernel
theorem dX7_namesOf_34 : decode cX7_namesOf 34 = .ok (.ldc 94, 2) := by decide +kernel
theorem dX7_namesOf_36 : decode cX7_namesOf 36 = .ok (.areturn, 1) := by decide +kernel
abbrev x_X7_namesOf (E : mh_E) (d mc ms : Nat) (Post : Option Value → mh_H → Prop) : mh_X := (E, yX7_namesOf, cX7_namesOf, 1, (some (.object "java/lang/String")), d, mc, ms, Post)
def q_X7_namesOf_0 (X : mh_X) : mh_PR := s_il 0 (s_sw [((0 : Int32), s_ldcs X 3 (s_aret X)), ((1 : Int32), s_ldcs X 4 (s_aret X))] (s_ldcs X 5 (s_aret X)))
theorem b_X7_namesOf_0 {E : mh_E} {d mc ms : Nat} {Post : Option Value → mh_H → Prop} : mh_S (x_X7_namesOf E d mc ms Post) 0 (q_X7_namesOf_0 (x_X7_namesOf E d mc ms Post)) := sn_iload_n dX7_namesOf_0 rfl (sn_lookup (tgt := 34) (ts := [(0, 27, 28), (1, 30, 31)]) dX7_namesOf_1 (by decide +kernel) (by decide +kernel) (by decide +kernel) (sw_cons (sn_ldcs (by decide) rfl rfl dX7_namesOf_28 (sn_aret rfl (Or.inl ⟨_, rfl⟩) dX7_namesOf_30)) (sw_cons (sn_ldcs (by decide) rfl rfl dX7_namesOf_31 (sn_aret rfl (Or.inl ⟨_, rfl⟩) dX7_namesOf_33)) sw_nil)) (by decide) (sn_ldcs (by decide) rfl rfl dX7_namesOf_34 (sn_aret rfl (Or.inl ⟨_, rfl⟩) dX7_namesOf_36)))
theorem m_X7_namesOf {E : mh_E} {d mc ms : Nat} {args : List Value} {h : mh_H} {Post : Option Value → mh_H → Prop} (lv : List (Option Value)) (hl : lv_args 0 args = mh_al 0 lv) (hs : (lg_sl args).length ≤ 1) (hG : q_X7_namesOf_0 (x_X7_namesOf E d mc ms Post) lv [] h 0 0) : mh_M E d mc ms yX7_namesOf args h Post := mh_M.of w_882 (by decide) (by decide) hl hs (b_X7_namesOf_0 _ _ _ _ _ hG)
theorem dX7_signsOf_0 : decode cX7_signsOf 0 = .ok (.iload_n 0, 1) := by decide +kernel
theorem dX7_signsOf_1 : decode cX7_signsOf 1 = .ok (.tableswitch 43 0 3 #[31, 34, 37, 40], 31) := by decide +kernel
theorem dX7_signsOf_32 : decode cX7_signsOf 32 = .ok (.ldc 96, 2) := by decide +kernel
theorem dX7_signsOf_34 : decode cX7_signsOf 34 = .ok (.areturn, 1) := by decide +kernel
theorem dX7_signsOf_35 : decode cX7_signsOf 35 = .ok (.ldc 98, 2) := by decide +kernel
theorem dX7_signsOf_37 : decode cX7_signsOf 37 = .ok (.areturn, 1) := by decide +kernel
theorem dX7_signsOf_38 : decode cX7_signsOf 38 = .ok (.ldc 100, 2) := by decide +kernel
theorem dX7_signsOf_40 : decode cX7_signsOf 40 = .ok (.areturn, 1) := by decide +kernel
theorem dX7_signsOf_41 : decode cX7_signsOf 41 = .ok (.ldc 102, 2) := by decide +kernel
theorem dX7_signsOf_43 : decode cX7_signsOf 43 = .ok (.areturn, 1) := by decide +kernel
theorem dX7_signsOf_44 : decode cX7_signsOf 44 = .ok (.ldc 104, 2) := by decide +kernel
theorem dX7_signsOf_46 : decode cX7_signsOf 46 = .ok (.areturn, 1) := by decide +kernel
abbrev x_X7_signsOf (E : mh_E) (d mc ms : Nat) (Post : Option Value → mh_H → Prop) : mh_X := (E, yX7_signsOf, cX7_signsOf, 1, (some (.object "java/lang/String")), d, mc, ms, Post)
def q_X7_signsOf_0 (X : mh_X) : mh_PR := s_il 0 (s_sw [((0 : Int32), s_ldcs X 6 (s_aret X)), ((1 : Int32), s_ldcs X 7 (s_aret X)), ((2 : Int32), s_ldcs X 8 (s_aret X)), ((3 : Int32), s_ldcs X 9 (s_aret X))] (s_ldcs X 10 (s_aret X)))
theorem b_X7_signsOf_0 {E : mh_E} {d mc ms : Nat} {Post : Option Value → mh_H → Prop} : mh_S (x_X7_signsOf E d mc ms Post) 0 (q_X7_signsOf_0 (x_X7_signsOf E d mc ms Post)) := sn_iload_n dX7_signsOf_0 rfl (sn_table (tgt := 44) (ts := [(0, 31, 32), (1, 34, 35), (2, 37, 38), (3, 40, 41)]) dX7_signsOf_1 (by decide +kernel) (by decide +kernel) (sw_cons (sn_ldcs (by decide) rfl rfl dX7_signsOf_32 (sn_aret rfl (Or.inl ⟨_, rfl⟩) dX7_signsOf_34)) (sw_cons (sn_ldcs (by decide) rfl rfl dX7_signsOf_35 (sn_aret rfl (Or.inl ⟨_, rfl⟩) dX7_signsOf_37)) (sw_cons (sn_ldcs (by decide) rfl rfl dX7_signsOf_38 (sn_aret rfl (Or.inl ⟨_, rfl⟩) dX7_signsOf_40)) (sw_cons (sn_ldcs (by decide) rfl rfl dX7_signsOf_41 (sn_aret rfl (Or.inl ⟨_, rfl⟩) dX7_signsOf_43)) sw_nil)))) (by decide) (sn_ldcs (by decide) rfl rfl dX7_signsOf_44 (sn_aret rfl (Or.inl ⟨_, rfl⟩) dX7_signsOf_46)))
theorem m_X7_signsOf {E : mh_E} {d mc ms : Nat} {args : List Value} {h : mh_H} {Post : Option Value → mh_H → Prop} (lv : List (Option Value)) (hl : lv_args 0 args = mh_al 0 lv) (hs : (lg_sl args).length ≤ 1) (hG : q_X7_signsOf_0 (x_X7_signsOf E d mc ms Post) lv [] h 0 0) : mh_M E d mc ms yX7_signsOf args h Post := mh_M.of w_951 (by decide) (by decide) hl hs (b_X7_signsOf_0 _ _ _ _ _ hG)
theorem dX7_isWord_0 : decode cX7_isWord 0 = .ok (.aload_n 0, 1) := by decide +kernel
theorem dX7_isWord_1 : decode cX7_isWord 1 = .ok (.getfield 25, 3) := by decide +kernel
theorem dX7_isWord_4 : decode cX7_isWord 4 = .ok (.bipush (-2), 2) := by decide +kernel
theorem dX7_isWord_6 : decode cX7_isWord 6 = .ok (.if_icmp .ne 19, 3) := by decide +kernel
theorem dX7_isWord_9 : decode cX7_isWord 9 = .ok (.aload_n 0, 1) := by decide +kernel
theorem dX7_isWord_10 : decode cX7_isWord 10 = .ok (.getfield 31, 3) := by decide +kernel
theorem dX7_isWord_13 : decode cX7_isWord 13 = .ok (.aload_n 0, 1) := by decide +kernel
theorem dX7_isWord_14 : decode cX7_isWord 14 = .ok (.getfield 28, 3) := by decide +kernel
theorem dX7_isWord_17 : decode cX7_isWord 17 = .ok (.isub, 1) := by decide +kernel
theorem dX7_isWord_18 : decode cX7_isWord 18 = .ok (.aload_n 1, 1) := by decide +kernel
theorem dX7_isWord_19 : decode cX7_isWord 19 = .ok (.invokevirtual 106, 3) := by decide +kernel
theorem dX7_isWord_22 : decode cX7_isWord 22 = .ok (.if_icmp .eq 5, 3) := by decide +kernel
theorem dX7_isWord_25 : decode cX7_isWord 25 = .ok (.iconst 0, 1) := by decide +kernel
theorem dX7_isWord_26 : decode cX7_isWord 26 = .ok (.ireturn, 1) := by decide +kernel
theorem dX7_isWord_27 : decode cX7_isWord 27 = .ok (.iconst 0, 1) := by decide +kernel
theorem dX7_isWord_28 : decode cX7_isWord 28 = .ok (.istore_n 2, 1) := by decide +kernel
theorem dX7_isWord_29 : decode cX7_isWord 29 = .ok (.iload_n 2, 1) := by decide +kernel
theorem dX7_isWord_30 : decode cX7_isWord 30 = .ok (.aload_n 1, 1) := by decide +kernel
theorem dX7_isWord_31 : decode cX7_isWord 31 = .ok (.invokevirtual 106, 3) := by decide +kernel
theorem dX7_isWord_34 : decode cX7_isWord 34 = .ok (.if_icmp .ge 29, 3) := by decide +kernel
theorem dX7_isWord_37 : decode cX7_isWord 37 = .ok (.aload_n 0, 1) := by decide +kernel
theorem dX7_isWord_38 : decode cX7_isWord 38 = .ok (.aload_n 0, 1) := by decide +kernel
theorem dX7_isWord_39 : decode cX7_isWord 39 = .ok (.getfield 28, 3) := by decide +kernel
theorem dX7_isWord_42 : decode cX7_isWord 42 = .ok (.iload_n 2, 1) := by decide +kernel
theorem dX7_isWord_43 : decode cX7_isWord 43 = .ok (.iadd, 1) := by decide +kernel
theorem dX7_isWord_44 : decode cX7_isWord 44 = .ok (.invokevirtual 73, 3) := by decide +kernel
theorem dX7_isWord_47 : decode cX7_isWord 47 = .ok (.aload_n 1, 1) := by decide +kernel
theorem dX7_isWord_48 : decode cX7_isWord 48 = .ok (.iload_n 2, 1) := by decide +kernel
theorem dX7_isWord_49 : decode cX7_isWord 49 = .ok (.invokevirtual 111, 3) := by decide +kernel
theorem dX7_isWord_52 : decode cX7_isWord 52 = .ok (.if_icmp .eq 5, 3) := by decide +kernel
theorem dX7_isWord_55 : decode cX7_isWord 55 = .ok (.iconst 0, 1) := by decide +kernel
theorem dX7_isWord_56 : decode cX7_isWord 56 = .ok (.ireturn, 1) := by decide +kernel
theorem dX7_isWord_57 : decode cX7_isWord 57 = .ok (.iinc 2 1, 3) := by decide +kernel
theorem dX7_isWord_60 : decode cX7_isWord 60 = .ok (.goto (-31), 3) := by decide +kernel
theorem dX7_isWord_63 : decode cX7_isWord 63 = .ok (.iconst 1, 1) := by decide +kernel
theorem dX7_isWord_64 : decode cX7_isWord 64 = .ok (.ireturn, 1) := by decide +kernel
abbrev x_X7_isWord (E : mh_E) (d mc ms : Nat) (Post : Option Value → mh_H → Prop) : mh_X := (E, yX7_isWord, cX7_isWord, 3, (some .boolean), d, mc, ms, Post)
def q_X7_isWord_29 (X : mh_X) : mh_PR := s_il 2 (s_al 1 (s_cvS X yJ0_length_8abf5 0 (s_if2 (fun x y => y ≤ x) (s_push (.int (1)) (s_zret X)) (s_al 0 (s_al 0 (s_gi 7 5 (s_il 2 (s_bin (fun x y => x + y) (s_cv X yX7_byteAt 7 1 (s_al 1 (s_il 2 (s_cvS X yJ0_charAt_5068e 1 (s_if2 (fun x y => x = y) (s_inc 2 (1) (mh_G X 29)) (s_push (.int (0)) (s_zret X)))))))))))))))
theorem b_X7_isWord_29 {E : mh_E} {d mc ms : Nat} {Post : Option Value → mh_H → Prop} : mh_S (x_X7_isWord E d mc ms Post) 29 (q_X7_isWord_29 (x_X7_isWord E d mc ms Post)) := sn_iload_n dX7_isWord_29 rfl (sn_aload_n dX7_isWord_30 rfl (sn_cvS w_808 w_809 w_810 w_71 rfl nm_J0_length_8abf5 dX7_isWord_31 (sn_icmp_ge (tgt := 63) dX7_isWord_34 (by decide) (sn_iconst dX7_isWord_63 (by decide) (sn_zret rfl dX7_isWord_64)) (sn_aload_n dX7_isWord_37 rfl (sn_aload_n dX7_isWord_38 rfl (sn_geti clX7 (by decide) w_254 dX7_isWord_39 (sn_iload_n dX7_isWord_42 rfl (sn_iadd dX7_isWord_43 (sn_cv w_784 w_786 w_10 w_63 rfl nm_X7_byteAt dX7_isWord_44 (sn_aload_n dX7_isWord_47 rfl (sn_iload_n dX7_isWord_48 rfl (sn_cvS w_818 w_819 w_820 w_71 rfl nm_J0_charAt_5068e dX7_isWord_49 (sn_icmp_eq (tgt := 57) dX7_isWord_52 (by decide) (sn_iinc dX7_isWord_57 (by decide) (Nat.le_of_ble_eq_true rfl) (sn_goto (tgt := 29) dX7_isWord_60 (by decide) (mh_S.G))) (sn_iconst dX7_isWord_55 (by decide) (sn_zret rfl dX7_isWord_56)))))))))))))))
def q_X7_isWord_25 (X : mh_X) : mh_PR := s_push (.int (0)) (s_zret X)
theorem b_X7_isWord_25 {E : mh_E} {d mc ms : Nat} {Post : Option Value → mh_H → Prop} : mh_S (x_X7_isWord E d mc ms Post) 25 (q_X7_isWord_25 (x_X7_isWord E d mc ms Post)) := sn_iconst dX7_isWord_25 (by decide) (sn_zret rfl dX7_isWord_26)
def q_X7_isWord_0 (X : mh_X) : mh_PR := s_al 0 (s_gi 7 4 (s_push (.int (-2)) (s_if2 (fun x y => ¬ x = y) (q_X7_isWord_25 X) (s_al 0 (s_gi 7 6 (s_al 0 (s_gi 7 5 (s_bin (fun x y => x - y) (s_al 1 (s_cvS X yJ0_length_8abf5 0 (s_if2 (fun x y => x = y) (s_push (.int (0)) (s_is 2 (mh_G X 29))) (q_X7_isWord_25 X))))))))))))
theorem b_X7_isWord_0 {E : mh_E} {d mc ms : Nat} {Post : Option Value → mh_H → Prop} : mh_S (x_X7_isWord E d mc ms Post) 0 (q_X7_isWord_0 (x_X7_isWord E d mc ms Post)) := sn_aload_n dX7_isWord_0 rfl (sn_geti clX7 (by decide) w_253 dX7_isWord_1 (sn_bipush dX7_isWord_4 (by decide) (sn_icmp_ne (tgt := 25) dX7_isWord_6 (by decide) (b_X7_isWord_25) (sn_aload_n dX7_isWord_9 rfl (sn_geti clX7 (by decide) w_255 dX7_isWord_10 (sn_aload_n dX7_isWord_13 rfl (sn_geti clX7 (by decide) w_254 dX7_isWord_14 (sn_isub dX7_isWord_17 (sn_aload_n dX7_isWord_18 rfl (sn_cvS w_808 w_809 w_810 w_71 rfl nm_J0_length_8abf5 dX7_isWord_19 (sn_icmp_eq (tgt := 27) dX7_isWord_22 (by decide) (sn_iconst dX7_isWord_27 (by decide) (sn_istore_n dX7_isWord_28 rfl (Nat.le_of_ble_eq_true rfl) mh_S.G)) (b_X7_isWord_25))))))))))))
theorem m_X7_isWord {E : mh_E} {d mc ms : Nat} {args : List Value} {h : mh_H} {Post : Option Value → mh_H → Prop} (lv : List (Option Value)) (hl : lv_args 0 args = mh_al 0 lv) (hs : (lg_sl args).length ≤ 3) (hG : q_X7_isWord_0 (x_X7_isWord E d mc ms Post) lv [] h 0 0) : mh_M E d mc ms yX7_isWord args h Post := mh_M.of w_807 (by decide) (by decide) hl hs (b_X7_isWord_0 _ _ _ _ _ hG)
theorem dX7_readKey_0 : decode cX7_readKey 0 = .ok (.iconst 0, 1) := by decide +kernel
theorem dX7_readKey_1 : decode cX7_readKey 1 = .ok (.istore_n 1, 1) := by decide +kernel
theorem dX7_readKey_2 : decode cX7_readKey 2 = .ok (.iload_n 1, 1) := by decide +kernel
theorem dX7_readKey_3 : decode cX7_readKey 3 = .ok (.iconst 3, 1) := by decide +kernel
theorem dX7_readKey_4 : decode cX7_readKey 4 = .ok (.if_icmp .ge 30, 3) := by decide +kernel
theorem dX7_readKey_7 : decode cX7_readKey 7 = .ok (.aload_n 0, 1) := by decide +kernel
theorem dX7_readKey_8 : decode cX7_readKey 8 = .ok (.iload_n 1, 1) := by decide +kernel
theorem dX7_readKey_9 : decode cX7_readKey 9 = .ok (.invokestatic 115, 3) := by decide +kernel
theorem dX7_readKey_12 : decode cX7_readKey 12 = .ok (.invokevirtual 119, 3) := by decide +kernel
theorem dX7_readKey_15 : decode cX7_readKey 15 = .ok (.ifCond .eq 13, 3) := by decide +kernel
theorem dX7_readKey_18 : decode cX7_readKey 18 = .ok (.aload_n 0, 1) := by decide +kernel
theorem dX7_readKey_19 : decode cX7_readKey 19 = .ok (.iload_n 1, 1) := by decide +kernel
theorem dX7_readKey_20 : decode cX7_readKey 20 = .ok (.putfield 34, 3) := by decide +kernel
theorem dX7_readKey_23 : decode cX7_readKey 23 = .ok (.aload_n 0, 1) := by decide +kernel
theorem dX7_readKey_24 : decode cX7_readKey 24 = .ok (.invokevirtual 49, 3) := by decide +kernel
theorem dX7_readKey_27 : decode cX7_readKey 27 = .ok (.return_, 1) := by decide +kernel
theorem dX7_readKey_28 : decode cX7_readKey 28 = .ok (.iinc 1 1, 3) := by decide +kernel
theorem dX7_readKey_31 : decode cX7_readKey 31 = .ok (.goto (-29), 3) := by decide +kernel
theorem dX7_readKey_34 : decode cX7_readKey 34 = .ok (.aload_n 0, 1) := by decide +kernel
theorem dX7_readKey_35 : decode cX7_readKey 35 = .ok (.invokevirtual 59, 3) := by decide +kernel
theorem dX7_readKey_38 : decode cX7_readKey 38 = .ok (.return_, 1) := by decide +kernel
abbrev x_X7_readKey (E : mh_E) (d mc ms : Nat) (Post : Option Value → mh_H → Prop) : mh_X := (E, yX7_readKey, cX7_readKey, 2, none, d, mc, ms, Post)
def q_X7_readKey_2 (X : mh_X) : mh_PR := s_il 1 (s_push (.int (3)) (s_if2 (fun x y => y ≤ x) (s_al 0 (s_cv X yX7_fail 7 0 (s_vret X))) (s_al 0 (s_il 1 (s_cs X yX7_keyName 1 (s_cv X yX7_isWord 7 1 (s_if1 (fun x => x = 0) (s_inc 1 (1) (mh_G X 2)) (s_al 0 (s_il 1 (s_pi 7 7 (s_al 0 (s_cv X yX7_next 7 0 (s_vret X)))))))))))))
theorem b_X7_readKey_2 {E : mh_E} {d mc ms : Nat} {Post : Option Value → mh_H → Prop} : mh_S (x_X7_readKey E d mc ms Post) 2 (q_X7_readKey_2 (x_X7_readKey E d mc ms Post)) := sn_iload_n dX7_readKey_2 rfl (sn_iconst dX7_readKey_3 (by decide) (sn_icmp_ge (tgt := 34) dX7_readKey_4 (by decide) (sn_aload_n dX7_readKey_34 rfl (sn_cv w_856 w_858 w_13 w_63 rfl nm_X7_fail dX7_readKey_35 (sn_vret rfl dX7_readKey_38))) (sn_aload_n dX7_readKey_7 rfl (sn_iload_n dX7_readKey_8 rfl (sn_cs w_798 w_799 w_63 nm_X7_keyName dX7_readKey_9 (sn_cv w_804 w_806 w_12 w_63 rfl nm_X7_isWord dX7_readKey_12 (sn_if_eq (tgt := 28) dX7_readKey_15 (by decide) (sn_iinc dX7_readKey_28 (by decide) (Nat.le_of_ble_eq_true rfl) (sn_goto (tgt := 2) dX7_readKey_31 (by decide) (mh_S.G))) (sn_aload_n dX7_readKey_18 rfl (sn_iload_n dX7_readKey_19 rfl (sn_puti clX7 (by decide) w_256 rfl rfl dX7_readKey_20 (sn_aload_n dX7_readKey_23 rfl (sn_cv w_780 w_782 w_9 w_63 rfl nm_X7_next dX7_readKey_24 (sn_vret rfl dX7_readKey_27)))))))))))))
def q_X7_readKey_0 (X : mh_X) : mh_PR := s_push (.int (0)) (s_is 1 (mh_G X 2))
theorem b_X7_readKey_0 {E : mh_E} {d mc ms : Nat} {Post : Option Value → mh_H → Prop} : mh_S (x_X7_readKey E d mc ms Post) 0 (q_X7_readKey_0 (x_X7_readKey E d mc ms Post)) := sn_iconst dX7_readKey_0 (by decide) (sn_istore_n dX7_readKey_1 rfl (Nat.le_of_ble_eq_true rfl) mh_S.G)
theorem m_X7_readKey {E : mh_E} {d mc ms : Nat} {args : List Value} {h : mh_H} {Post : Option Value → mh_H → Prop} (lv : List (Option Value)) (hl : lv_args 0 args = mh_al 0 lv) (hs : (lg_sl args).length ≤ 2) (hG : q_X7_readKey_0 (x_X7_readKey E d mc ms Post) lv [] h 0 0) : mh_M E d mc ms yX7_readKey args h Post := mh_M.of w_797 (by decide) (by decide) hl hs (b_X7_readKey_0 _ _ _ _ _ hG)
theorem dX7_readLevel_0 : decode cX7_readLevel 0 = .ok (.iload_n 1, 1) := by decide +kernel
theorem dX7_readLevel_1 : decode cX7_readLevel 1 = .ok (.iconst 5, 1) := by decide +kernel
theorem dX7_readLevel_2 : decode cX7_readLevel 2 = .ok (.if_icmp .lt 8, 3) := by decide +kernel
theorem dX7_readLevel_5 : decode cX7_readLevel 5 = .ok (.aload_n 0, 1) := by decide +kernel
theorem dX7_readLevel_6 : decode cX7_readLevel 6 = .ok (.invokevirtual 123, 3) := by decide +kernel
theorem dX7_readLevel_9 : decode cX7_readLevel 9 = .ok (.return_, 1) := by decide +kernel
theorem dX7_readLevel_10 : decode cX7_readLevel 10 = .ok (.aload_n 0, 1) := by decide +kernel
theorem dX7_readLevel_11 : decode cX7_readLevel 11 = .ok (.iload_n 1, 1) := by decide +kernel
theorem dX7_readLevel_12 : decode cX7_readLevel 12 = .ok (.iconst 1, 1) := by decide +kernel
theorem dX7_readLevel_13 : decode cX7_readLevel 13 = .ok (.iadd, 1) := by decide +kernel
theorem dX7_readLevel_14 : decode cX7_readLevel 14 = .ok (.invokevirtual 55, 3) := by decide +kernel
theorem dX7_readLevel_17 : decode cX7_readLevel 17 = .ok (.iload_n 1, 1) := by decide +kernel
theorem dX7_readLevel_18 : decode cX7_readLevel 18 = .ok (.iconst 2, 1) := by decide +kernel
theorem dX7_readLevel_19 : decode cX7_readLevel 19 = .ok (.if_icmp .ne 7, 3) := by decide +kernel
theorem dX7_readLevel_22 : decode cX7_readLevel 22 = .ok (.iconst 1, 1) := by decide +kernel
theorem dX7_readLevel_23 : decode cX7_readLevel 23 = .ok (.goto 5, 3) := by decide +kernel
theorem dX7_readLevel_26 : decode cX7_readLevel 26 = .ok (.bipush 96, 2) := by decide +kernel
theorem dX7_readLevel_28 : decode cX7_readLevel 28 = .ok (.istore_n 2, 1) := by decide +kernel
theorem dX7_readLevel_29 : decode cX7_readLevel 29 = .ok (.iconst 0, 1) := by decide +kernel
theorem dX7_readLevel_30 : decode cX7_readLevel 30 = .ok (.istore_n 3, 1) := by decide +kernel
theorem dX7_readLevel_31 : decode cX7_readLevel 31 = .ok (.iload_n 3, 1) := by decide +kernel
theorem dX7_readLevel_32 : decode cX7_readLevel 32 = .ok (.iload_n 2, 1) := by decide +kernel
theorem dX7_readLevel_33 : decode cX7_readLevel 33 = .ok (.if_icmp .ge 55, 3) := by decide +kernel
theorem dX7_readLevel_36 : decode cX7_readLevel 36 = .ok (.aload_n 0, 1) := by decide +kernel
theorem dX7_readLevel_37 : decode cX7_readLevel 37 = .ok (.getfield 25, 3) := by decide +kernel
theorem dX7_readLevel_40 : decode cX7_readLevel 40 = .ok (.ifCond .lt 48, 3) := by decide +kernel
theorem dX7_readLevel_43 : decode cX7_readLevel 43 = .ok (.iload_n 1, 1) := by decide +kernel
theorem dX7_readLevel_44 : decode cX7_readLevel 44 = .ok (.invokestatic 126, 3) := by decide +kernel
theorem dX7_readLevel_47 : decode cX7_readLevel 47 = .ok (.aload_n 0, 1) := by decide +kernel
theorem dX7_readLevel_48 : decode cX7_readLevel 48 = .ok (.getfield 25, 3) := by decide +kernel
theorem dX7_readLevel_51 : decode cX7_readLevel 51 = .ok (.i2c, 1) := by decide +kernel
theorem dX7_readLevel_52 : decode cX7_readLevel 52 = .ok (.invokevirtual 129, 3) := by decide +kernel
theorem dX7_readLevel_55 : decode cX7_readLevel 55 = .ok (.ifCond .lt 33, 3) := by decide +kernel
theorem dX7_readLevel_58 : decode cX7_readLevel 58 = .ok (.aload_n 0, 1) := by decide +kernel
theorem dX7_readLevel_59 : decode cX7_readLevel 59 = .ok (.getfield 25, 3) := by decide +kernel
theorem dX7_readLevel_62 : decode cX7_readLevel 62 = .ok (.istore 4, 2) := by decide +kernel
theorem dX7_readLevel_64 : decode cX7_readLevel 64 = .ok (.aload_n 0, 1) := by decide +kernel
theorem dX7_readLevel_65 : decode cX7_readLevel 65 = .ok (.invokevirtual 49, 3) := by decide +kernel
theorem dX7_readLevel_68 : decode cX7_readLevel 68 = .ok (.aload_n 0, 1) := by decide +kernel
theorem dX7_readLevel_69 : decode cX7_readLevel 69 = .ok (.iload_n 1, 1) := by decide +kernel
theorem dX7_readLevel_70 : decode cX7_readLevel 70 = .ok (.iconst 1, 1) := by decide +kernel
theorem dX7_readLevel_71 : decode cX7_readLevel 71 = .ok (.iadd, 1) := by decide +kernel
theorem dX7_readLevel_72 : decode cX7_readLevel 72 = .ok (.invokevirtual 55, 3) := by decide +kernel
theorem dX7_readLevel_75 : decode cX7_readLevel 75 = .ok (.aload_n 0, 1) := by decide +kernel
theorem dX7_readLevel_76 : decode cX7_readLevel 76 = .ok (.iload 4, 2) := by decide +kernel
theorem dX7_readLevel_78 : decode cX7_readLevel 78 = .ok (.ineg, 1) := by decide +kernel
theorem dX7_readLevel_79 : decode cX7_readLevel 79 = .ok (.invokevirtual 132, 3) := by decide +kernel
theorem dX7_readLevel_82 : decode cX7_readLevel 82 = .ok (.iinc 3 1, 3) := by decide +kernel
theorem dX7_readLevel_85 : decode cX7_readLevel 85 = .ok (.goto (-54), 3) := by decide +kernel
theorem dX7_readLevel_88 : decode cX7_readLevel 88 = .ok (.return_, 1) := by decide +kernel
abbrev x_X7_readLevel (E : mh_E) (d mc ms : Nat) (Post : Option Value → mh_H → Prop) : mh_X := (E, yX7_readLevel, cX7_readLevel, 5, none, d, mc, ms, Post)
def q_X7_readLevel_88 (X : mh_X) : mh_PR := s_vret X
theorem b_X7_readLevel_88 {E : mh_E} {d mc ms : Nat} {Post : Option Value → mh_H → Prop} : mh_S (x_X7_readLevel E d mc ms Post) 88 (q_X7_readLevel_88 (x_X7_readLevel E d mc ms Post)) := sn_vret rfl dX7_readLevel_88
def q_X7_readLevel_31 (X : mh_X) : mh_PR := s_il 3 (s_il 2 (s_if2 (fun x y => y ≤ x) (q_X7_readLevel_88 X) (s_al 0 (s_gi 7 4 (s_if1 (fun x => x < 0) (q_X7_readLevel_88 X) (s_il 1 (s_cs X yX7_signsOf 1 (s_al 0 (s_gi 7 4 (s_un (fun x => (x.toUInt32 % 65536).toInt32) (s_cvS X yJ0_indexOf_0f7a4 1 (s_if1 (fun x => x < 0) (q_X7_readLevel_88 X) (s_al 0 (s_gi 7 4 (s_is 4 (s_al 0 (s_cv X yX7_next 7 0 (s_al 0 (s_il 1 (s_push (.int (1)) (s_bin (fun x y => x + y) (s_cv X yX7_readLevel 7 1 (s_al 0 (s_il 4 (s_un (fun x => -x) (s_cv X yX7_put 7 1 (s_inc 3 (1) (mh_G X 31))))))))))))))))))))))))))))
theorem b_X7_readLevel_31 {E : mh_E} {d mc ms : Nat} {Post : Option Value → mh_H → Prop} : mh_S (x_X7_readLevel E d mc ms Post) 31 (q_X7_readLevel_31 (x_X7_readLevel E d mc ms Post)) := sn_iload_n dX7_readLevel_31 rfl (sn_iload_n dX7_readLevel_32 rfl (sn_icmp_ge (tgt := 88) dX7_readLevel_33 (by decide) (b_X7_readLevel_88) (sn_aload_n dX7_readLevel_36 rfl (sn_geti clX7 (by decide) w_253 dX7_readLevel_37 (sn_if_lt (tgt := 88) dX7_readLevel_40 (by decide) (b_X7_readLevel_88) (sn_iload_n dX7_readLevel_43 rfl (sn_cs w_949 w_950 w_63 nm_X7_signsOf dX7_readLevel_44 (sn_aload_n dX7_readLevel_47 rfl (sn_geti clX7 (by decide) w_253 dX7_readLevel_48 (sn_i2c dX7_readLevel_51 (sn_cvS w_886 w_887 w_888 w_71 rfl nm_J0_indexOf_0f7a4 dX7_readLevel_52 (sn_if_lt (tgt := 88) dX7_readLevel_55 (by decide) (b_X7_readLevel_88) (sn_aload_n dX7_readLevel_58 rfl (sn_geti clX7 (by decide) w_253 dX7_readLevel_59 (sn_istore dX7_readLevel_62 (Nat.le_of_ble_eq_true rfl) (sn_aload_n dX7_readLevel_64 rfl (sn_cv w_780 w_782 w_9 w_63 rfl nm_X7_next dX7_readLevel_65 (sn_aload_n dX7_readLevel_68 rfl (sn_iload_n dX7_readLevel_69 rfl (sn_iconst dX7_readLevel_70 (by decide) (sn_iadd dX7_readLevel_71 (sn_cv w_860 w_862 w_14 w_63 rfl nm_X7_readLevel dX7_readLevel_72 (sn_aload_n dX7_readLevel_75 rfl (sn_iload dX7_readLevel_76 (sn_ineg dX7_readLevel_78 (sn_cv w_872 w_874 w_17 w_63 rfl nm_X7_put dX7_readLevel_79 (sn_iinc dX7_readLevel_82 (by decide) (Nat.le_of_ble_eq_true rfl) (sn_goto (tgt := 31) dX7_readLevel_85 (by decide) (mh_S.G)))))))))))))))))))))))))))))
def q_X7_readLevel_28 (X : mh_X) : mh_PR := s_is 2 (s_push (.int (0)) (s_is 3 (mh_G X 31)))
theorem b_X7_readLevel_28 {E : mh_E} {d mc ms : Nat} {Post : Option Value → mh_H → Prop} : mh_S (x_X7_readLevel E d mc ms Post) 28 (q_X7_readLevel_28 (x_X7_readLevel E d mc ms Post)) := sn_istore_n dX7_readLevel_28 rfl (Nat.le_of_ble_eq_true rfl) (sn_iconst dX7_readLevel_29 (by decide) (sn_istore_n dX7_readLevel_30 rfl (Nat.le_of_ble_eq_true rfl) mh_S.G))
def q_X7_readLevel_0 (X : mh_X) : mh_PR := s_il 1 (s_push (.int (5)) (s_if2 (fun x y => x < y) (s_al 0 (s_il 1 (s_push (.int (1)) (s_bin (fun x y => x + y) (s_cv X yX7_readLevel 7 1 (s_il 1 (s_push (.int (2)) (s_if2 (fun x y => ¬ x = y) (s_push (.int (96)) (q_X7_readLevel_28 X)) (s_push (.int (1)) (q_X7_readLevel_28 X)))))))))) (s_al 0 (s_cv X yX7_readPiece 7 0 (s_vret X)))))
theorem b_X7_readLevel_0 {E : mh_E} {d mc ms : Nat} {Post : Option Value → mh_H → Prop} : mh_S (x_X7_readLevel E d mc ms Post) 0 (q_X7_readLevel_0 (x_X7_readLevel E d mc ms Post)) := sn_iload_n dX7_readLevel_0 rfl (sn_iconst dX7_readLevel_1 (by decide) (sn_icmp_lt (tgt := 10) dX7_readLevel_2 (by decide) (sn_aload_n dX7_readLevel_10 rfl (sn_iload_n dX7_readLevel_11 rfl (sn_iconst dX7_readLevel_12 (by decide) (sn_iadd dX7_readLevel_13 (sn_cv w_860 w_862 w_14 w_63 rfl nm_X7_readLevel dX7_readLevel_14 (sn_iload_n dX7_readLevel_17 rfl (sn_iconst dX7_readLevel_18 (by decide) (sn_icmp_ne (tgt := 26) dX7_readLevel_19 (by decide) (sn_bipush dX7_readLevel_26 (by decide) b_X7_readLevel_28) (sn_iconst dX7_readLevel_22 (by decide) (sn_goto (tgt := 28) dX7_readLevel_23 (by decide) (b_X7_readLevel_28))))))))))) (sn_aload_n dX7_readLevel_5 rfl (sn_cv w_864 w_866 w_15 w_63 rfl nm_X7_readPiece dX7_readLevel_6 (sn_vret rfl dX7_readLevel_9)))))
theorem m_X7_readLevel {E : mh_E} {d mc ms : Nat} {args : List Value} {h : mh_H} {Post : Option Value → mh_H → Prop} (lv : List (Option Value)) (hl : lv_args 0 args = mh_al 0 lv) (hs : (lg_sl args).length ≤ 5) (hG : q_X7_readLevel_0 (x_X7_readLevel E d mc ms Post) lv [] h 0 0) : mh_M E d mc ms yX7_readLevel args h Post := mh_M.of w_863 (by decide) (by decide) hl hs (b_X7_readLevel_0 _ _ _ _ _ hG)
theorem dX7_readPiece_0 : decode cX7_readPiece 0 = .ok (.aload_n 0, 1) := by decide +kernel
theorem dX7_readPiece_1 : decode cX7_readPiece 1 = .ok (.getfield 25, 3) := by decide +kernel
theorem dX7_readPiece_4 : decode cX7_readPiece 4 = .ok (.lookupswitch 72 #[(-3, 44), (-2, 51), (33, 58), (40, 65)], 44) := by decide +kernel
theorem dX7_readPiece_48 : decode cX7_readPiece 48 = .ok (.aload_n 0, 1) := by decide +kernel
theorem dX7_readPiece_49 : decode cX7_readPiece 49 = .ok (.invokevirtual 135, 3) := by decide +kernel
theorem dX7_readPiece_52 : decode cX7_readPiece 52 = .ok (.goto 28, 3) := by decide +kernel
theorem dX7_readPiece_55 : decode cX7_readPiece 55 = .ok (.aload_n 0, 1) := by decide +kernel
theorem dX7_readPiece_56 : decode cX7_readPiece 56 = .ok (.invokevirtual 138, 3) := by decide +kernel
theorem dX7_readPiece_59 : decode cX7_readPiece 59 = .ok (.goto 21, 3) := by decide +kernel
theorem dX7_readPiece_62 : decode cX7_readPiece 62 = .ok (.aload_n 0, 1) := by decide +kernel
theorem dX7_readPiece_63 : decode cX7_readPiece 63 = .ok (.invokevirtual 141, 3) := by decide +kernel
theorem dX7_readPiece_66 : decode cX7_readPiece 66 = .ok (.goto 14, 3) := by decide +kernel
theorem dX7_readPiece_69 : decode cX7_readPiece 69 = .ok (.aload_n 0, 1) := by decide +kernel
theorem dX7_readPiece_70 : decode cX7_readPiece 70 = .ok (.invokevirtual 144, 3) := by decide +kernel
theorem dX7_readPiece_73 : decode cX7_readPiece 73 = .ok (.goto 7, 3) := by decide +kernel
theorem dX7_readPiece_76 : decode cX7_readPiece 76 = .ok (.aload_n 0, 1) := by decide +kernel
theorem dX7_readPiece_77 : decode cX7_readPiece 77 = .ok (.invokevirtual 59, 3) := by decide +kernel
theorem dX7_readPiece_80 : decode cX7_readPiece 80 = .ok (.return_, 1) := by decide +kernel
abbrev x_X7_readPiece (E : mh_E) (d mc ms : Nat) (Post : Option Value → mh_H → Prop) : mh_X := (E, yX7_readPiece, cX7_readPiece, 1, none, d, mc, ms, Post)
def q_X7_readPiece_80 (X : mh_X) : mh_PR := s_vret X
theorem b_X7_readPiece_80 {E : mh_E} {d mc ms : Nat} {Post : Option Value → mh_H → Prop} : mh_S (x_X7_readPiece E d mc ms Post) 80 (q_X7_readPiece_80 (x_X7_readPiece E d mc ms Post)) := sn_vret rfl dX7_readPiece_80
def q_X7_readPiece_0 (X : mh_X) : mh_PR := s_al 0 (s_gi 7 4 (s_sw [((-3 : Int32), s_al 0 (s_cv X yX7_readNumber 7 0 (q_X7_readPiece_80 X))), ((-2 : Int32), s_al 0 (s_cv X yX7_readName 7 0 (q_X7_readPiece_80 X))), ((33 : Int32), s_al 0 (s_cv X yX7_readNot 7 0 (q_X7_readPiece_80 X))), ((40 : Int32), s_al 0 (s_cv X yX7_readBracket 7 0 (q_X7_readPiece_80 X)))] (s_al 0 (s_cv X yX7_fail 7 0 (q_X7_readPiece_80 X)))))
theorem b_X7_readPiece_0 {E : mh_E} {d mc ms : Nat} {Post : Option Value → mh_H → Prop} : mh_S (x_X7_readPiece E d mc ms Post) 0 (q_X7_readPiece_0 (x_X7_readPiece E d mc ms Post)) := sn_aload_n dX7_readPiece_0 rfl (sn_geti clX7 (by decide) w_253 dX7_readPiece_1 (sn_lookup (tgt := 76) (ts := [(-3, 44, 48), (-2, 51, 55), (33, 58, 62), (40, 65, 69)]) dX7_readPiece_4 (by decide +kernel) (by decide +kernel) (by decide +kernel) (sw_cons (sn_aload_n dX7_readPiece_48 rfl (sn_cv w_868 w_870 w_16 w_63 rfl nm_X7_readNumber dX7_readPiece_49 (sn_goto (tgt := 80) dX7_readPiece_52 (by decide) (b_X7_readPiece_80)))) (sw_cons (sn_aload_n dX7_readPiece_55 rfl (sn_cv w_876 w_878 w_18 w_63 rfl nm_X7_readName dX7_readPiece_56 (sn_goto (tgt := 80) dX7_readPiece_59 (by decide) (b_X7_readPiece_80)))) (sw_cons (sn_aload_n dX7_readPiece_62 rfl (sn_cv w_941 w_943 w_19 w_63 rfl nm_X7_readNot dX7_readPiece_63 (sn_goto (tgt := 80) dX7_readPiece_66 (by decide) (b_X7_readPiece_80)))) (sw_cons (sn_aload_n dX7_readPiece_69 rfl (sn_cv w_945 w_947 w_20 w_63 rfl nm_X7_readBracket dX7_readPiece_70 (sn_goto (tgt := 80) dX7_readPiece_73 (by decide) (b_X7_readPiece_80)))) sw_nil)))) (by decide) (sn_aload_n dX7_readPiece_76 rfl (sn_cv w_856 w_858 w_13 w_63 rfl nm_X7_fail dX7_readPiece_77 b_X7_readPiece_80))))
theorem m_X7_readPiece {E : mh_E} {d mc ms : Nat} {args : List Value} {h : mh_H} {Post : Option Value → mh_H → Prop} (lv : List (Option Value)) (hl : lv_args 0 args = mh_al 0 lv) (hs : (lg_sl args).length ≤ 1) (hG : q_X7_readPiece_0 (x_X7_readPiece E d mc ms Post) lv [] h 0 0) : mh_M E d mc ms yX7_readPiece args h Post := mh_M.of w_867 (by decide) (by decide) hl hs (b_X7_readPiece_0 _ _ _ _ _ hG)
theorem dX7_readNumber_0 : decode cX7_readNumber 0 = .ok (.iconst 0, 1) := by decide +kernel
theorem dX7_readNumber_1 : decode cX7_readNumber 1 = .ok (.istore_n 1, 1) := by decide +kernel
theorem dX7_readNumber_2 : decode cX7_readNumber 2 = .ok (.aload_n 0, 1) := by decide +kernel
theorem dX7_readNumber_3 : decode cX7_readNumber 3 = .ok (.getfield 28, 3) := by decide +kernel
theorem dX7_readNumber_6 : decode cX7_readNumber 6 = .ok (.istore_n 2, 1) := by decide +kernel
theorem dX7_readNumber_7 : decode cX7_readNumber 7 = .ok (.iload_n 2, 1) := by decide +kernel
theorem dX7_readNumber_8 : decode cX7_readNumber 8 = .ok (.aload_n 0, 1) := by decide +kernel
theorem dX7_readNumber_9 : decode cX7_readNumber 9 = .ok (.getfield 31, 3) := by decide +kernel
theorem dX7_readNumber_12 : decode cX7_readNumber 12 = .ok (.if_icmp .ge 23, 3) := by decide +kernel
theorem dX7_readNumber_15 : decode cX7_readNumber 15 = .ok (.iload_n 1, 1) := by decide +kernel
theorem dX7_readNumber_16 : decode cX7_readNumber 16 = .ok (.bipush 10, 2) := by decide +kernel
theorem dX7_readNumber_18 : decode cX7_readNumber 18 = .ok (.imul, 1) := by decide +kernel
theorem dX7_readNumber_19 : decode cX7_readNumber 19 = .ok (.aload_n 0, 1) := by decide +kernel
theorem dX7_readNumber_20 : decode cX7_readNumber 20 = .ok (.iload_n 2, 1) := by decide +kernel
theorem dX7_readNumber_21 : decode cX7_readNumber 21 = .ok (.invokevirtual 73, 3) := by decide +kernel
theorem dX7_readNumber_24 : decode cX7_readNumber 24 = .ok (.iadd, 1) := by decide +kernel
theorem dX7_readNumber_25 : decode cX7_readNumber 25 = .ok (.bipush 48, 2) := by decide +kernel
theorem dX7_readNumber_27 : decode cX7_readNumber 27 = .ok (.isub, 1) := by decide +kernel
theorem dX7_readNumber_28 : decode cX7_readNumber 28 = .ok (.istore_n 1, 1) := by decide +kernel
theorem dX7_readNumber_29 : decode cX7_readNumber 29 = .ok (.iinc 2 1, 3) := by decide +kernel
theorem dX7_readNumber_32 : decode cX7_readNumber 32 = .ok (.goto (-25), 3) := by decide +kernel
theorem dX7_readNumber_35 : decode cX7_readNumber 35 = .ok (.aload_n 0, 1) := by decide +kernel
theorem dX7_readNumber_36 : decode cX7_readNumber 36 = .ok (.iload_n 1, 1) := by decide +kernel
theorem dX7_readNumber_37 : decode cX7_readNumber 37 = .ok (.invokevirtual 132, 3) := by decide +kernel
theorem dX7_readNumber_40 : decode cX7_readNumber 40 = .ok (.aload_n 0, 1) := by decide +kernel
theorem dX7_readNumber_41 : decode cX7_readNumber 41 = .ok (.dup, 1) := by decide +kernel
theorem dX7_readNumber_42 : decode cX7_readNumber 42 = .ok (.getfield 40, 3) := by decide +kernel
theorem dX7_readNumber_45 : decode cX7_readNumber 45 = .ok (.iconst 1, 1) := by decide +kernel
theorem dX7_readNumber_46 : decode cX7_readNumber 46 = .ok (.iadd, 1) := by decide +kernel
theorem dX7_readNumber_47 : decode cX7_readNumber 47 = .ok (.putfield 40, 3) := by decide +kernel
theorem dX7_readNumber_50 : decode cX7_readNumber 50 = .ok (.aload_n 0, 1) := by decide +kernel
theorem dX7_readNumber_51 : decode cX7_readNumber 51 = .ok (.invokevirtual 49, 3) := by decide +kernel
theorem dX7_readNumber_54 : decode cX7_readNumber 54 = .ok (.return_, 1) := by decide +kernel
abbrev x_X7_readNumber (E : mh_E) (d mc ms : Nat) (Post : Option Value → mh_H → Prop) : mh_X := (E, yX7_readNumber, cX7_readNumber, 3, none, d, mc, ms, Post)
def q_X7_readNumber_7 (X : mh_X) : mh_PR := s_il 2 (s_al 0 (s_gi 7 6 (s_if2 (fun x y => y ≤ x) (s_al 0 (s_il 1 (s_cv X yX7_put 7 1 (s_al 0 (s_dup (s_gi 7 9 (s_push (.int (1)) (s_bin (fun x y => x + y) (s_pi 7 9 (s_al 0 (s_cv X yX7_next 7 0 (s_vret X)))))))))))) (s_il 1 (s_push (.int (10)) (s_bin (fun x y => x * y) (s_al 0 (s_il 2 (s_cv X yX7_byteAt 7 1 (s_bin (fun x y => x + y) (s_push (.int (48)) (s_bin (fun x y => x - y) (s_is 1 (s_inc 2 (1) (mh_G X 7)))))))))))))))
theorem b_X7_readNumber_7 {E : mh_E} {d mc ms : Nat} {Post : Option Value → mh_H → Prop} : mh_S (x_X7_readNumber E d mc ms Post) 7 (q_X7_readNumber_7 (x_X7_readNumber E d mc ms Post)) := sn_iload_n dX7_readNumber_7 rfl (sn_aload_n dX7_readNumber_8 rfl (sn_geti clX7 (by decide) w_255 dX7_readNumber_9 (sn_icmp_ge (tgt := 35) dX7_readNumber_12 (by decide) (sn_aload_n dX7_readNumber_35 rfl (sn_iload_n dX7_readNumber_36 rfl (sn_cv w_872 w_874 w_17 w_63 rfl nm_X7_put dX7_readNumber_37 (sn_aload_n dX7_readNumber_40 rfl (sn_dup dX7_readNumber_41 (sn_geti clX7 (by decide) w_258 dX7_readNumber_42 (sn_iconst dX7_readNumber_45 (by decide) (sn_iadd dX7_readNumber_46 (sn_puti clX7 (by decide) w_258 rfl rfl dX7_readNumber_47 (sn_aload_n dX7_readNumber_50 rfl (sn_cv w_780 w_782 w_9 w_63 rfl nm_X7_next dX7_readNumber_51 (sn_vret rfl dX7_readNumber_54)))))))))))) (sn_iload_n dX7_readNumber_15 rfl (sn_bipush dX7_readNumber_16 (by decide) (sn_imul dX7_readNumber_18 (sn_aload_n dX7_readNumber_19 rfl (sn_iload_n dX7_readNumber_20 rfl (sn_cv w_784 w_786 w_10 w_63 rfl nm_X7_byteAt dX7_readNumber_21 (sn_iadd dX7_readNumber_24 (sn_bipush dX7_readNumber_25 (by decide) (sn_isub dX7_readNumber_27 (sn_istore_n dX7_readNumber_28 rfl (Nat.le_of_ble_eq_true rfl) (sn_iinc dX7_readNumber_29 (by decide) (Nat.le_of_ble_eq_true rfl) (sn_goto (tgt := 7) dX7_readNumber_32 (by decide) (mh_S.G))))))))))))))))
def q_X7_readNumber_0 (X : mh_X) : mh_PR := s_push (.int (0)) (s_is 1 (s_al 0 (s_gi 7 5 (s_is 2 (mh_G X 7)))))
theorem b_X7_readNumber_0 {E : mh_E} {d mc ms : Nat} {Post : Option Value → mh_H → Prop} : mh_S (x_X7_readNumber E d mc ms Post) 0 (q_X7_readNumber_0 (x_X7_readNumber E d mc ms Post)) := sn_iconst dX7_readNumber_0 (by decide) (sn_istore_n dX7_readNumber_1 rfl (Nat.le_of_ble_eq_true rfl) (sn_aload_n dX7_readNumber_2 rfl (sn_geti clX7 (by decide) w_254 dX7_readNumber_3 (sn_istore_n dX7_readNumber_6 rfl (Nat.le_of_ble_eq_true rfl) mh_S.G))))
theorem m_X7_readNumber {E : mh_E} {d mc ms : Nat} {args : List Value} {h : mh_H} {Post : Option Value → mh_H → Prop} (lv : List (Option Value)) (hl : lv_args 0 args = mh_al 0 lv) (hs : (lg_sl args).length ≤ 3) (hG : q_X7_readNumber_0 (x_X7_readNumber E d mc ms Post) lv [] h 0 0) : mh_M E d mc ms yX7_readNumber args h Post := mh_M.of w_871 (by decide) (by decide) hl hs (b_X7_readNumber_0 _ _ _ _ _ hG)
theorem dX7_readName_0 : decode cX7_readName 0 = .ok (.aload_n 0, 1) := by decide +kernel
theorem dX7_readName_1 : decode cX7_readName 1 = .ok (.getfield 31, 3) := by decide +kernel
theorem dX7_readName_4 : decode cX7_readName 4 = .ok (.aload_n 0, 1) := by decide +kernel
theorem dX7_readName_5 : decode cX7_readName 5 = .ok (.getfield 28, 3) := by decide +kernel
theorem dX7_readName_8 : decode cX7_readName 8 = .ok (.isub, 1) := by decide +kernel
theorem dX7_readName_9 : decode cX7_readName 9 = .ok (.iconst 1, 1) := by decide +kernel
theorem dX7_readName_10 : decode cX7_readName 10 = .ok (.if_icmp .ne 25, 3) := by decide +kernel
theorem dX7_readName_13 : decode cX7_readName 13 = .ok (.aload_n 0, 1) := by decide +kernel
theorem dX7_readName_14 : decode cX7_readName 14 = .ok (.getfield 34, 3) := by decide +kernel
theorem dX7_readName_17 : decode cX7_readName 17 = .ok (.invokestatic 147, 3) := by decide +kernel
theorem dX7_readName_20 : decode cX7_readName 20 = .ok (.aload_n 0, 1) := by decide +kernel
theorem dX7_readName_21 : decode cX7_readName 21 = .ok (.aload_n 0, 1) := by decide +kernel
theorem dX7_readName_22 : decode cX7_readName 22 = .ok (.getfield 28, 3) := by decide +kernel
theorem dX7_readName_25 : decode cX7_readName 25 = .ok (.invokevirtual 73, 3) := by decide +kernel
theorem dX7_readName_28 : decode cX7_readName 28 = .ok (.i2c, 1) := by decide +kernel
theorem dX7_readName_29 : decode cX7_readName 29 = .ok (.invokevirtual 129, 3) := by decide +kernel
theorem dX7_readName_32 : decode cX7_readName 32 = .ok (.goto 4, 3) := by decide +kernel
theorem dX7_readName_35 : decode cX7_readName 35 = .ok (.iconst (-1), 1) := by decide +kernel
theorem dX7_readName_36 : decode cX7_readName 36 = .ok (.istore_n 1, 1) := by decide +kernel
theorem dX7_readName_37 : decode cX7_readName 37 = .ok (.iload_n 1, 1) := by decide +kernel
theorem dX7_readName_38 : decode cX7_readName 38 = .ok (.ifCond .ge 8, 3) := by decide +kernel
theorem dX7_readName_41 : decode cX7_readName 41 = .ok (.aload_n 0, 1) := by decide +kernel
theorem dX7_readName_42 : decode cX7_readName 42 = .ok (.invokevirtual 59, 3) := by decide +kernel
theorem dX7_readName_45 : decode cX7_readName 45 = .ok (.return_, 1) := by decide +kernel
theorem dX7_readName_46 : decode cX7_readName 46 = .ok (.aload_n 0, 1) := by decide +kernel
theorem dX7_readName_47 : decode cX7_readName 47 = .ok (.iconst (-1), 1) := by decide +kernel
theorem dX7_readName_48 : decode cX7_readName 48 = .ok (.iload_n 1, 1) := by decide +kernel
theorem dX7_readName_49 : decode cX7_readName 49 = .ok (.isub, 1) := by decide +kernel
theorem dX7_readName_50 : decode cX7_readName 50 = .ok (.invokevirtual 132, 3) := by decide +kernel
theorem dX7_readName_53 : decode cX7_readName 53 = .ok (.aload_n 0, 1) := by decide +kernel
theorem dX7_readName_54 : decode cX7_readName 54 = .ok (.dup, 1) := by decide +kernel
theorem dX7_readName_55 : decode cX7_readName 55 = .ok (.getfield 40, 3) := by decide +kernel
theorem dX7_readName_58 : decode cX7_readName 58 = .ok (.iconst 1, 1) := by decide +kernel
theorem dX7_readName_59 : decode cX7_readName 59 = .ok (.iadd, 1) := by decide +kernel
theorem dX7_readName_60 : decode cX7_readName 60 = .ok (.putfield 40, 3) := by decide +kernel
theorem dX7_readName_63 : decode cX7_readName 63 = .ok (.aload_n 0, 1) := by decide +kernel
theorem dX7_readName_64 : decode cX7_readName 64 = .ok (.invokevirtual 49, 3) := by decide +kernel
theorem dX7_readName_67 : decode cX7_readName 67 = .ok (.return_, 1) := by decide +kernel
abbrev x_X7_readName (E : mh_E) (d mc ms : Nat) (Post : Option Value → mh_H → Prop) : mh_X := (E, yX7_readName, cX7_readName, 2, none, d, mc, ms, Post)
def q_X7_readName_36 (X : mh_X) : mh_PR := s_is 1 (s_il 1 (s_if1 (fun x => 0 ≤ x) (s_al 0 (s_push (.int (-1)) (s_il 1 (s_bin (fun x y => x - y) (s_cv X yX7_put 7 1 (s_al 0 (s_dup (s_gi 7 9 (s_push (.int (1)) (s_bin (fun x y => x + y) (s_pi 7 9 (s_al 0 (s_cv X yX7_next 7 0 (s_vret X)))))))))))))) (s_al 0 (s_cv X yX7_fail 7 0 (s_vret X)))))
theorem b_X7_readName_36 {E : mh_E} {d mc ms : Nat} {Post : Option Value → mh_H → Prop} : mh_S (x_X7_readName E d mc ms Post) 36 (q_X7_readName_36 (x_X7_readName E d mc ms Post)) := sn_istore_n dX7_readName_36 rfl (Nat.le_of_ble_eq_true rfl) (sn_iload_n dX7_readName_37 rfl (sn_if_ge (tgt := 46) dX7_readName_38 (by decide) (sn_aload_n dX7_readName_46 rfl (sn_iconst dX7_readName_47 (by decide) (sn_iload_n dX7_readName_48 rfl (sn_isub dX7_readName_49 (sn_cv w_872 w_874 w_17 w_63 rfl nm_X7_put dX7_readName_50 (sn_aload_n dX7_readName_53 rfl (sn_dup dX7_readName_54 (sn_geti clX7 (by decide) w_258 dX7_readName_55 (sn_iconst dX7_readName_58 (by decide) (sn_iadd dX7_readName_59 (sn_puti clX7 (by decide) w_258 rfl rfl dX7_readName_60 (sn_aload_n dX7_readName_63 rfl (sn_cv w_780 w_782 w_9 w_63 rfl nm_X7_next dX7_readName_64 (sn_vret rfl dX7_readName_67)))))))))))))) (sn_aload_n dX7_readName_41 rfl (sn_cv w_856 w_858 w_13 w_63 rfl nm_X7_fail dX7_readName_42 (sn_vret rfl dX7_readName_45)))))
def q_X7_readName_0 (X : mh_X) : mh_PR := s_al 0 (s_gi 7 6 (s_al 0 (s_gi 7 5 (s_bin (fun x y => x - y) (s_push (.int (1)) (s_if2 (fun x y => ¬ x = y) (s_push (.int (-1)) (q_X7_readName_36 X)) (s_al 0 (s_gi 7 7 (s_cs X yX7_namesOf 1 (s_al 0 (s_al 0 (s_gi 7 5 (s_cv X yX7_byteAt 7 1 (s_un (fun x => (x.toUInt32 % 65536).toInt32) (s_cvS X yJ0_indexOf_0f7a4 1 (q_X7_readName_36 X))))))))))))))))
theorem b_X7_readName_0 {E : mh_E} {d mc ms : Nat} {Post : Option Value → mh_H → Prop} : mh_S (x_X7_readName E d mc ms Post) 0 (q_X7_readName_0 (x_X7_readName E d mc ms Post)) := sn_aload_n dX7_readName_0 rfl (sn_geti clX7 (by decide) w_255 dX7_readName_1 (sn_aload_n dX7_readName_4 rfl (sn_geti clX7 (by decide) w_254 dX7_readName_5 (sn_isub dX7_readName_8 (sn_iconst dX7_readName_9 (by decide) (sn_icmp_ne (tgt := 35) dX7_readName_10 (by decide) (sn_iconst dX7_readName_35 (by decide) b_X7_readName_36) (sn_aload_n dX7_readName_13 rfl (sn_geti clX7 (by decide) w_256 dX7_readName_14 (sn_cs w_880 w_881 w_63 nm_X7_namesOf dX7_readName_17 (sn_aload_n dX7_readName_20 rfl (sn_aload_n dX7_readName_21 rfl (sn_geti clX7 (by decide) w_254 dX7_readName_22 (sn_cv w_784 w_786 w_10 w_63 rfl nm_X7_byteAt dX7_readName_25 (sn_i2c dX7_readName_28 (sn_cvS w_886 w_887 w_888 w_71 rfl nm_J0_indexOf_0f7a4 dX7_readName_29 (sn_goto (tgt := 36) dX7_readName_32 (by decide) (b_X7_readName_36)))))))))))))))))
theorem m_X7_readName {E : mh_E} {d mc ms : Nat} {args : List Value} {h : mh_H} {Post : Option Value → mh_H → Prop} (lv : List (Option Value)) (hl : lv_args 0 args = mh_al 0 lv) (hs : (lg_sl args).length ≤ 2) (hG : q_X7_readName_0 (x_X7_readName E d mc ms Post) lv [] h 0 0) : mh_M E d mc ms yX7_readName args h Post := mh_M.of w_879 (by decide) (by decide) hl hs (b_X7_readName_0 _ _ _ _ _ hG)
theorem dX7_readNot_0 : decode cX7_readNot 0 = .ok (.aload_n 0, 1) := by decide +kernel
theorem dX7_readNot_1 : decode cX7_readNot 1 = .ok (.getfield 46, 3) := by decide +kernel
theorem dX7_readNot_4 : decode cX7_readNot 4 = .ok (.bipush 8, 2) := by decide +kernel
theorem dX7_readNot_6 : decode cX7_readNot 6 = .ok (.if_icmp .lt 8, 3) := by decide +kernel
theorem dX7_readNot_9 : decode cX7_readNot 9 = .ok (.aload_n 0, 1) := by decide +kernel
theorem dX7_readNot_10 : decode cX7_readNot 10 = .ok (.invokevirtual 59, 3) := by decide +kernel
theorem dX7_readNot_13 : decode cX7_readNot 13 = .ok (.return_, 1) := by decide +kernel
theorem dX7_readNot_14 : decode cX7_readNot 14 = .ok (.aload_n 0, 1) := by decide +kernel
theorem dX7_readNot_15 : decode cX7_readNot 15 = .ok (.dup, 1) := by decide +kernel
theorem dX7_readNot_16 : decode cX7_readNot 16 = .ok (.getfield 46, 3) := by decide +kernel
theorem dX7_readNot_19 : decode cX7_readNot 19 = .ok (.iconst 1, 1) := by decide +kernel
theorem dX7_readNot_20 : decode cX7_readNot 20 = .ok (.iadd, 1) := by decide +kernel
theorem dX7_readNot_21 : decode cX7_readNot 21 = .ok (.putfield 46, 3) := by decide +kernel
theorem dX7_readNot_24 : decode cX7_readNot 24 = .ok (.aload_n 0, 1) := by decide +kernel
theorem dX7_readNot_25 : decode cX7_readNot 25 = .ok (.invokevirtual 49, 3) := by decide +kernel
theorem dX7_readNot_28 : decode cX7_readNot 28 = .ok (.aload_n 0, 1) := by decide +kernel
theorem dX7_readNot_29 : decode cX7_readNot 29 = .ok (.invokevirtual 123, 3) := by decide +kernel
theorem dX7_readNot_32 : decode cX7_readNot 32 = .ok (.aload_n 0, 1) := by decide +kernel
theorem dX7_readNot_33 : decode cX7_readNot 33 = .ok (.bipush (-33), 2) := by decide +kernel
theorem dX7_readNot_35 : decode cX7_readNot 35 = .ok (.invokevirtual 132, 3) := by decide +kernel
theorem dX7_readNot_38 : decode cX7_readNot 38 = .ok (.aload_n 0, 1) := by decide +kernel
theorem dX7_readNot_39 : decode cX7_readNot 39 = .ok (.dup, 1) := by decide +kernel
theorem dX7_readNot_40 : decode cX7_readNot 40 = .ok (.getfield 46, 3) := by decide +kernel
theorem dX7_readNot_43 : decode cX7_readNot 43 = .ok (.iconst 1, 1) := by decide +kernel
theorem dX7_readNot_44 : decode cX7_readNot 44 = .ok (.isub, 1) := by decide +kernel
theorem dX7_readNot_45 : decode cX7_readNot 45 = .ok (.putfield 46, 3) := by decide +kernel
theorem dX7_readNot_48 : decode cX7_readNot 48 = .ok (.return_, 1) := by decide +kernel
abbrev x_X7_readNot (E : mh_E) (d mc ms : Nat) (Post : Option Value → mh_H → Prop) : mh_X := (E, yX7_readNot, cX7_readNot, 1, none, d, mc, ms, Post)
def q_X7_readNot_0 (X : mh_X) : mh_PR := s_al 0 (s_gi 7 11 (s_push (.int (8)) (s_if2 (fun x y => x < y) (s_al 0 (s_dup (s_gi 7 11 (s_push (.int (1)) (s_bin (fun x y => x + y) (s_pi 7 11 (s_al 0 (s_cv X yX7_next 7 0 (s_al 0 (s_cv X yX7_readPiece 7 0 (s_al 0 (s_push (.int (-33)) (s_cv X yX7_put 7 1 (s_al 0 (s_dup (s_gi 7 11 (s_push (.int (1)) (s_bin (fun x y => x - y) (s_pi 7 11 (s_vret X)))))))))))))))))))) (s_al 0 (s_cv X yX7_fail 7 0 (s_vret X))))))
theorem b_X7_readNot_0 {E : mh_E} {d mc ms : Nat} {Post : Option Value → mh_H → Prop} : mh_S (x_X7_readNot E d mc ms Post) 0 (q_X7_readNot_0 (x_X7_readNot E d mc ms Post)) := sn_aload_n dX7_readNot_0 rfl (sn_geti clX7 (by decide) w_260 dX7_readNot_1 (sn_bipush dX7_readNot_4 (by decide) (sn_icmp_lt (tgt := 14) dX7_readNot_6 (by decide) (sn_aload_n dX7_readNot_14 rfl (sn_dup dX7_readNot_15 (sn_geti clX7 (by decide) w_260 dX7_readNot_16 (sn_iconst dX7_readNot_19 (by decide) (sn_iadd dX7_readNot_20 (sn_puti clX7 (by decide) w_260 rfl rfl dX7_readNot_21 (sn_aload_n dX7_readNot_24 rfl (sn_cv w_780 w_782 w_9 w_63 rfl nm_X7_next dX7_readNot_25 (sn_aload_n dX7_readNot_28 rfl (sn_cv w_864 w_866 w_15 w_63 rfl nm_X7_readPiece dX7_readNot_29 (sn_aload_n dX7_readNot_32 rfl (sn_bipush dX7_readNot_33 (by decide) (sn_cv w_872 w_874 w_17 w_63 rfl nm_X7_put dX7_readNot_35 (sn_aload_n dX7_readNot_38 rfl (sn_dup dX7_readNot_39 (sn_geti clX7 (by decide) w_260 dX7_readNot_40 (sn_iconst dX7_readNot_43 (by decide) (sn_isub dX7_readNot_44 (sn_puti clX7 (by decide) w_260 rfl rfl dX7_readNot_45 (sn_vret rfl dX7_readNot_48)))))))))))))))))))) (sn_aload_n dX7_readNot_9 rfl (sn_cv w_856 w_858 w_13 w_63 rfl nm_X7_fail dX7_readNot_10 (sn_vret rfl dX7_readNot_13))))))
theorem m_X7_readNot {E : mh_E} {d mc ms : Nat} {args : List Value} {h : mh_H} {Post : Option Value → mh_H → Prop} (lv : List (Option Value)) (hl : lv_args 0 args = mh_al 0 lv) (hs : (lg_sl args).length ≤ 1) (hG : q_X7_readNot_0 (x_X7_readNot E d mc ms Post) lv [] h 0 0) : mh_M E d mc ms yX7_readNot args h Post := mh_M.of w_944 (by decide) (by decide) hl hs (b_X7_readNot_0 _ _ _ _ _ hG)
theorem dX7_readBracket_0 : decode cX7_readBracket 0 = .ok (.aload_n 0, 1) := by decide +kernel
theorem dX7_readBracket_1 : decode cX7_readBracket 1 = .ok (.getfield 43, 3) := by decide +kernel
theorem dX7_readBracket_4 : decode cX7_readBracket 4 = .ok (.bipush 8, 2) := by decide +kernel
theorem dX7_readBracket_6 : decode cX7_readBracket 6 = .ok (.if_icmp .lt 8, 3) := by decide +kernel
theorem dX7_readBracket_9 : decode cX7_readBracket 9 = .ok (.aload_n 0, 1) := by decide +kernel
theorem dX7_readBracket_10 : decode cX7_readBracket 10 = .ok (.invokevirtual 59, 3) := by decide +kernel
theorem dX7_readBracket_13 : decode cX7_readBracket 13 = .ok (.return_, 1) := by decide +kernel
theorem dX7_readBracket_14 : decode cX7_readBracket 14 = .ok (.aload_n 0, 1) := by decide +kernel
theorem dX7_readBracket_15 : decode cX7_readBracket 15 = .ok (.dup, 1) := by decide +kernel
theorem dX7_readBracket_16 : decode cX7_readBracket 16 = .ok (.getfield 43, 3) := by decide +kernel
theorem dX7_readBracket_19 : decode cX7_readBracket 19 = .ok (.iconst 1, 1) := by decide +kernel
theorem dX7_readBracket_20 : decode cX7_readBracket 20 = .ok (.iadd, 1) := by decide +kernel
theorem dX7_readBracket_21 : decode cX7_readBracket 21 = .ok (.putfield 43, 3) := by decide +kernel
theorem dX7_readBracket_24 : decode cX7_readBracket 24 = .ok (.aload_n 0, 1) := by decide +kernel
theorem dX7_readBracket_25 : decode cX7_readBracket 25 = .ok (.invokevirtual 49, 3) := by decide +kernel
theorem dX7_readBracket_28 : decode cX7_readBracket 28 = .ok (.aload_n 0, 1) := by decide +kernel
theorem dX7_readBracket_29 : decode cX7_readBracket 29 = .ok (.iconst 0, 1) := by decide +kernel
theorem dX7_readBracket_30 : decode cX7_readBracket 30 = .ok (.invokevirtual 55, 3) := by decide +kernel
theorem dX7_readBracket_33 : decode cX7_readBracket 33 = .ok (.aload_n 0, 1) := by decide +kernel
theorem dX7_readBracket_34 : decode cX7_readBracket 34 = .ok (.getfield 25, 3) := by decide +kernel
theorem dX7_readBracket_37 : decode cX7_readBracket 37 = .ok (.bipush 41, 2) := by decide +kernel
theorem dX7_readBracket_39 : decode cX7_readBracket 39 = .ok (.if_icmp .ne 10, 3) := by decide +kernel
theorem dX7_readBracket_42 : decode cX7_readBracket 42 = .ok (.aload_n 0, 1) := by decide +kernel
theorem dX7_readBracket_43 : decode cX7_readBracket 43 = .ok (.invokevirtual 49, 3) := by decide +kernel
theorem dX7_readBracket_46 : decode cX7_readBracket 46 = .ok (.goto 7, 3) := by decide +kernel
theorem dX7_readBracket_49 : decode cX7_readBracket 49 = .ok (.aload_n 0, 1) := by decide +kernel
theorem dX7_readBracket_50 : decode cX7_readBracket 50 = .ok (.invokevirtual 59, 3) := by decide +kernel
theorem dX7_readBracket_53 : decode cX7_readBracket 53 = .ok (.aload_n 0, 1) := by decide +kernel
theorem dX7_readBracket_54 : decode cX7_readBracket 54 = .ok (.dup, 1) := by decide +kernel
theorem dX7_readBracket_55 : decode cX7_readBracket 55 = .ok (.getfield 43, 3) := by decide +kernel
theorem dX7_readBracket_58 : decode cX7_readBracket 58 = .ok (.iconst 1, 1) := by decide +kernel
theorem dX7_readBracket_59 : decode cX7_readBracket 59 = .ok (.isub, 1) := by decide +kernel
theorem dX7_readBracket_60 : decode cX7_readBracket 60 = .ok (.putfield 43, 3) := by decide +kernel
theorem dX7_readBracket_63 : decode cX7_readBracket 63 = .ok (.return_, 1) := by decide +kernel
abbrev x_X7_readBracket (E : mh_E) (d mc ms : Nat) (Post : Option Value → mh_H → Prop) : mh_X := (E, yX7_readBracket, cX7_readBracket, 1, none, d, mc, ms, Post)
def q_X7_readBracket_53 (X : mh_X) : mh_PR := s_al 0 (s_dup (s_gi 7 10 (s_push (.int (1)) (s_bin (fun x y => x - y) (s_pi 7 10 (s_vret X))))))
theorem b_X7_readBracket_53 {E : mh_E} {d mc ms : Nat} {Post : Option Value → mh_H → Prop} : mh_S (x_X7_readBracket E d mc ms Post) 53 (q_X7_readBracket_53 (x_X7_readBracket E d mc ms Post)) := sn_aload_n dX7_readBracket_53 rfl (sn_dup dX7_readBracket_54 (sn_geti clX7 (by decide) w_259 dX7_readBracket_55 (sn_iconst dX7_readBracket_58 (by decide) (sn_isub dX7_readBracket_59 (sn_puti clX7 (by decide) w_259 rfl rfl dX7_readBracket_60 (sn_vret rfl dX7_readBracket_63))))))
def q_X7_readBracket_0 (X : mh_X) : mh_PR := s_al 0 (s_gi 7 10 (s_push (.int (8)) (s_if2 (fun x y => x < y) (s_al 0 (s_dup (s_gi 7 10 (s_push (.int (1)) (s_bin (fun x y => x + y) (s_pi 7 10 (s_al 0 (s_cv X yX7_next 7 0 (s_al 0 (s_push (.int (0)) (s_cv X yX7_readLevel 7 1 (s_al 0 (s_gi 7 4 (s_push (.int (41)) (s_if2 (fun x y => ¬ x = y) (s_al 0 (s_cv X yX7_fail 7 0 (q_X7_readBracket_53 X))) (s_al 0 (s_cv X yX7_next 7 0 (q_X7_readBracket_53 X)))))))))))))))))) (s_al 0 (s_cv X yX7_fail 7 0 (s_vret X))))))
theorem b_X7_readBracket_0 {E : mh_E} {d mc ms : Nat} {Post : Option Value → mh_H → Prop} : mh_S (x_X7_readBracket E d mc ms Post) 0 (q_X7_readBracket_0 (x_X7_readBracket E d mc ms Post)) := sn_aload_n dX7_readBracket_0 rfl (sn_geti clX7 (by decide) w_259 dX7_readBracket_1 (sn_bipush dX7_readBracket_4 (by decide) (sn_icmp_lt (tgt := 14) dX7_readBracket_6 (by decide) (sn_aload_n dX7_readBracket_14 rfl (sn_dup dX7_readBracket_15 (sn_geti clX7 (by decide) w_259 dX7_readBracket_16 (sn_iconst dX7_readBracket_19 (by decide) (sn_iadd dX7_readBracket_20 (sn_puti clX7 (by decide) w_259 rfl rfl dX7_readBracket_21 (sn_aload_n dX7_readBracket_24 rfl (sn_cv w_780 w_782 w_9 w_63 rfl nm_X7_next dX7_readBracket_25 (sn_aload_n dX7_readBracket_28 rfl (sn_iconst dX7_readBracket_29 (by decide) (sn_cv w_860 w_862 w_14 w_63 rfl nm_X7_readLevel dX7_readBracket_30 (sn_aload_n dX7_readBracket_33 rfl (sn_geti clX7 (by decide) w_253 dX7_readBracket_34 (sn_bipush dX7_readBracket_37 (by decide) (sn_icmp_ne (tgt := 49) dX7_readBracket_39 (by decide) (sn_aload_n dX7_readBracket_49 rfl (sn_cv w_856 w_858 w_13 w_63 rfl nm_X7_fail dX7_readBracket_50 b_X7_readBracket_53)) (sn_aload_n dX7_readBracket_42 rfl (sn_cv w_780 w_782 w_9 w_63 rfl nm_X7_next dX7_readBracket_43 (sn_goto (tgt := 53) dX7_readBracket_46 (by decide) (b_X7_readBracket_53))))))))))))))))))) (sn_aload_n dX7_readBracket_9 rfl (sn_cv w_856 w_858 w_13 w_63 rfl nm_X7_fail dX7_readBracket_10 (sn_vret rfl dX7_readBracket_13))))))
theorem m_X7_readBracket {E : mh_E} {d mc ms : Nat} {args : List Value} {h : mh_H} {Post : Option Value → mh_H → Prop} (lv : List (Option Value)) (hl : lv_args 0 args = mh_al 0 lv) (hs : (lg_sl args).length ≤ 1) (hG : q_X7_readBracket_0 (x_X7_readBracket E d mc ms Post) lv [] h 0 0) : mh_M E d mc ms yX7_readBracket args h Post := mh_M.of w_948 (by decide) (by decide) hl hs (b_X7_readBracket_0 _ _ _ _ _ hG)
