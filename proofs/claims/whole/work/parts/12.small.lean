theorem dX2_init_0 : decode cX2_init 0 = .ok (.aload_n 0, 1) := by decide +kernel
theorem dX2_init_1 : decode cX2_init 1 = .ok (.invokespecial 3, 3) := by decide +kernel
theorem dX2_init_4 : decode cX2_init 4 = .ok (.aload_n 0, 1) := by decide +kernel
theorem dX2_init_5 : decode cX2_init 5 = .ok (.bipush 14, 2) := by decide +kernel
theorem dX2_init_7 : decode cX2_init 7 = .ok (.anewarray 9, 3) := by decide +kernel
theorem dX2_init_10 : decode cX2_init 10 = .ok (.putfield 11, 3) := by decide +kernel
theorem dX2_init_13 : decode cX2_init 13 = .ok (.aload_n 0, 1) := by decide +kernel
theorem dX2_init_14 : decode cX2_init 14 = .ok (.iconst 3, 1) := by decide +kernel
theorem dX2_init_15 : decode cX2_init 15 = .ok (.newarray .int, 2) := by decide +kernel
theorem dX2_init_17 : decode cX2_init 17 = .ok (.putfield 17, 3) := by decide +kernel
theorem dX2_init_20 : decode cX2_init 20 = .ok (.aload_n 0, 1) := by decide +kernel
theorem dX2_init_21 : decode cX2_init 21 = .ok (.iconst 0, 1) := by decide +kernel
theorem dX2_init_22 : decode cX2_init 22 = .ok (.putfield 21, 3) := by decide +kernel
theorem dX2_init_25 : decode cX2_init 25 = .ok (.aload_n 0, 1) := by decide +kernel
theorem dX2_init_26 : decode cX2_init 26 = .ok (.getfield 17, 3) := by decide +kernel
theorem dX2_init_29 : decode cX2_init 29 = .ok (.ldc 25, 2) := by decide +kernel
theorem dX2_init_31 : decode cX2_init 31 = .ok (.invokestatic 26, 3) := by decide +kernel
theorem dX2_init_34 : decode cX2_init 34 = .ok (.return_, 1) := by decide +kernel
abbrev x_X2_init (E : mh_E) (d mc ms : Nat) (Post : Option Value → mh_H → Prop) : mh_X := (E, yX2_init, cX2_init, 1, none, d, mc, ms, Post)
def q_X2_init_0 (X : mh_X) : mh_PR := s_al 0 (s_oi X (s_al 0 (s_push (.int (14)) (s_newq X 7 (s_pr 2 0 (s_al 0 (s_push (.int (3)) (s_newa X 0 (s_pr 2 1 (s_al 0 (s_push (.int (0)) (s_pi 2 2 (s_al 0 (s_gr 2 1 (s_push (.int (-1000000005)) (s_cs X yJ7_fill_53178 2 (s_vret X)))))))))))))))))
theorem b_X2_init_0 {E : mh_E} {d mc ms : Nat} {Post : Option Value → mh_H → Prop} : mh_S (x_X2_init E d mc ms Post) 0 (q_X2_init_0 (x_X2_init E d mc ms Post)) := sn_aload_n dX2_init_0 rfl (sn_oi w_117 w_82 w_oi dX2_init_1 (sn_aload_n dX2_init_4 rfl (sn_bipush dX2_init_5 (by decide) (sn_newq (by decide) rfl w_119 w_118 dX2_init_7 (sn_putrF clX2 (by decide) w_124 rfl rfl rfl (Or.inr ⟨_, rfl⟩) dX2_init_10 (sn_aload_n dX2_init_13 rfl (sn_iconst dX2_init_14 (by decide) (sn_newint w_109 dX2_init_15 (sn_putrF clX2 (by decide) w_125 rfl rfl rfl (Or.inr ⟨_, rfl⟩) dX2_init_17 (sn_aload_n dX2_init_20 rfl (sn_iconst dX2_init_21 (by decide) (sn_puti clX2 (by decide) w_126 rfl rfl dX2_init_22 (sn_aload_n dX2_init_25 rfl (sn_getr clX2 (by decide) w_125 dX2_init_26 (sn_ldc dX2_init_29 w_120 (sn_cs w_121 w_122 w_60 nm_J7_fill_53178 dX2_init_31 (sn_vret rfl dX2_init_34)))))))))))))))))
theorem m_X2_init {E : mh_E} {d mc ms : Nat} {args : List Value} {h : mh_H} {Post : Option Value → mh_H → Prop} (lv : List (Option Value)) (hl : lv_args 0 args = mh_al 0 lv) (hs : (lg_sl args).length ≤ 1) (hG : q_X2_init_0 (x_X2_init E d mc ms Post) lv [] h 0 0) : mh_M E d mc ms yX2_init args h Post := mh_M.of w_116 (by decide) (by decide) hl hs (b_X2_init_0 _ _ _ _ _ hG)
theorem dX2_become_0 : decode cX2_become 0 = .ok (.iconst 0, 1) := by decide +kernel
theorem dX2_become_1 : decode cX2_become 1 = .ok (.istore_n 2, 1) := by decide +kernel
theorem dX2_become_2 : decode cX2_become 2 = .ok (.iload_n 2, 1) := by decide +kernel
theorem dX2_become_3 : decode cX2_become 3 = .ok (.aload_n 1, 1) := by decide +kernel
theorem dX2_become_4 : decode cX2_become 4 = .ok (.getfield 21, 3) := by decide +kernel
theorem dX2_become_7 : decode cX2_become 7 = .ok (.if_icmp .ge 27, 3) := by decide +kernel
theorem dX2_become_10 : decode cX2_become 10 = .ok (.iload_n 2, 1) := by decide +kernel
theorem dX2_become_11 : decode cX2_become 11 = .ok (.bipush 14, 2) := by decide +kernel
theorem dX2_become_13 : decode cX2_become 13 = .ok (.if_icmp .ge 21, 3) := by decide +kernel
theorem dX2_become_16 : decode cX2_become 16 = .ok (.aload_n 0, 1) := by decide +kernel
theorem dX2_become_17 : decode cX2_become 17 = .ok (.getfield 11, 3) := by decide +kernel
theorem dX2_become_20 : decode cX2_become 20 = .ok (.iload_n 2, 1) := by decide +kernel
theorem dX2_become_21 : decode cX2_become 21 = .ok (.aload_n 1, 1) := by decide +kernel
theorem dX2_become_22 : decode cX2_become 22 = .ok (.getfield 11, 3) := by decide +kernel
theorem dX2_become_25 : decode cX2_become 25 = .ok (.iload_n 2, 1) := by decide +kernel
theorem dX2_become_26 : decode cX2_become 26 = .ok (.aaload, 1) := by decide +kernel
theorem dX2_become_27 : decode cX2_become 27 = .ok (.aastore, 1) := by decide +kernel
theorem dX2_become_28 : decode cX2_become 28 = .ok (.iinc 2 1, 3) := by decide +kernel
theorem dX2_become_31 : decode cX2_become 31 = .ok (.goto (-29), 3) := by decide +kernel
theorem dX2_become_34 : decode cX2_become 34 = .ok (.aload_n 1, 1) := by decide +kernel
theorem dX2_become_35 : decode cX2_become 35 = .ok (.getfield 17, 3) := by decide +kernel
theorem dX2_become_38 : decode cX2_become 38 = .ok (.iconst 0, 1) := by decide +kernel
theorem dX2_become_39 : decode cX2_become 39 = .ok (.aload_n 0, 1) := by decide +kernel
theorem dX2_become_40 : decode cX2_become 40 = .ok (.getfield 17, 3) := by decide +kernel
theorem dX2_become_43 : decode cX2_become 43 = .ok (.iconst 0, 1) := by decide +kernel
theorem dX2_become_44 : decode cX2_become 44 = .ok (.iconst 3, 1) := by decide +kernel
theorem dX2_become_45 : decode cX2_become 45 = .ok (.invokestatic 32, 3) := by decide +kernel
theorem dX2_become_48 : decode cX2_become 48 = .ok (.aload_n 0, 1) := by decide +kernel
theorem dX2_become_49 : decode cX2_become 49 = .ok (.aload_n 1, 1) := by decide +kernel
theorem dX2_become_50 : decode cX2_become 50 = .ok (.getfield 21, 3) := by decide +kernel
theorem dX2_become_53 : decode cX2_become 53 = .ok (.putfield 21, 3) := by decide +kernel
theorem dX2_become_56 : decode cX2_become 56 = .ok (.return_, 1) := by decide +kernel
abbrev x_X2_become (E : mh_E) (d mc ms : Nat) (Post : Option Value → mh_H → Prop) : mh_X := (E, yX2_become, cX2_become, 3, none, d, mc, ms, Post)
def q_X2_become_34 (X : mh_X) : mh_PR := s_al 1 (s_gr 2 1 (s_push (.int (0)) (s_al 0 (s_gr 2 1 (s_push (.int (0)) (s_push (.int (3)) (s_ac X (s_al 0 (s_al 1 (s_gi 2 2 (s_pi 2 2 (s_vret X))))))))))))
theorem b_X2_become_34 {E : mh_E} {d mc ms : Nat} {Post : Option Value → mh_H → Prop} : mh_S (x_X2_become E d mc ms Post) 34 (q_X2_become_34 (x_X2_become E d mc ms Post)) := sn_aload_n dX2_become_34 rfl (sn_getr clX2 (by decide) w_125 dX2_become_35 (sn_iconst dX2_become_38 (by decide) (sn_aload_n dX2_become_39 rfl (sn_getr clX2 (by decide) w_125 dX2_become_40 (sn_iconst dX2_become_43 (by decide) (sn_iconst dX2_become_44 (by decide) (sn_ac w_675 w_acN w_acS w_70 dX2_become_45 (sn_aload_n dX2_become_48 rfl (sn_aload_n dX2_become_49 rfl (sn_geti clX2 (by decide) w_126 dX2_become_50 (sn_puti clX2 (by decide) w_126 rfl rfl dX2_become_53 (sn_vret rfl dX2_become_56))))))))))))
def q_X2_become_2 (X : mh_X) : mh_PR := s_il 2 (s_al 1 (s_gi 2 2 (s_if2 (fun x y => y ≤ x) (q_X2_become_34 X) (s_il 2 (s_push (.int (14)) (s_if2 (fun x y => y ≤ x) (q_X2_become_34 X) (s_al 0 (s_gr 2 0 (s_il 2 (s_al 1 (s_gr 2 0 (s_il 2 (s_aald 7 (s_aast 7 8 (s_inc 2 (1) (mh_G X 2))))))))))))))))
theorem b_X2_become_2 {E : mh_E} {d mc ms : Nat} {Post : Option Value → mh_H → Prop} : mh_S (x_X2_become E d mc ms Post) 2 (q_X2_become_2 (x_X2_become E d mc ms Post)) := sn_iload_n dX2_become_2 rfl (sn_aload_n dX2_become_3 rfl (sn_geti clX2 (by decide) w_126 dX2_become_4 (sn_icmp_ge (tgt := 34) dX2_become_7 (by decide) (b_X2_become_34) (sn_iload_n dX2_become_10 rfl (sn_bipush dX2_become_11 (by decide) (sn_icmp_ge (tgt := 34) dX2_become_13 (by decide) (b_X2_become_34) (sn_aload_n dX2_become_16 rfl (sn_getr clX2 (by decide) w_124 dX2_become_17 (sn_iload_n dX2_become_20 rfl (sn_aload_n dX2_become_21 rfl (sn_getr clX2 (by decide) w_124 dX2_become_22 (sn_iload_n dX2_become_25 rfl (sn_aaload (by decide) rfl dX2_become_26 (sn_aastore clX8 (by decide) rfl dX2_become_27 (sn_iinc dX2_become_28 (by decide) (Nat.le_of_ble_eq_true rfl) (sn_goto (tgt := 2) dX2_become_31 (by decide) (mh_S.G)))))))))))))))))
def q_X2_become_0 (X : mh_X) : mh_PR := s_push (.int (0)) (s_is 2 (mh_G X 2))
theorem b_X2_become_0 {E : mh_E} {d mc ms : Nat} {Post : Option Value → mh_H → Prop} : mh_S (x_X2_become E d mc ms Post) 0 (q_X2_become_0 (x_X2_become E d mc ms Post)) := sn_iconst dX2_become_0 (by decide) (sn_istore_n dX2_become_1 rfl (Nat.le_of_ble_eq_true rfl) mh_S.G)
theorem m_X2_become {E : mh_E} {d mc ms : Nat} {args : List Value} {h : mh_H} {Post : Option Value → mh_H → Prop} (lv : List (Option Value)) (hl : lv_args 0 args = mh_al 0 lv) (hs : (lg_sl args).length ≤ 3) (hG : q_X2_become_0 (x_X2_become E d mc ms Post) lv [] h 0 0) : mh_M E d mc ms yX2_become args h Post := mh_M.of w_674 (by decide) (by decide) hl hs (b_X2_become_0 _ _ _ _ _ hG)
theorem dX2_enact_0 : decode cX2_enact 0 = .ok (.aload_n 0, 1) := by decide +kernel
theorem dX2_enact_1 : decode cX2_enact 1 = .ok (.getfield 21, 3) := by decide +kernel
theorem dX2_enact_4 : decode cX2_enact 4 = .ok (.ifCond .lt 27, 3) := by decide +kernel
theorem dX2_enact_7 : decode cX2_enact 7 = .ok (.aload_n 0, 1) := by decide +kernel
theorem dX2_enact_8 : decode cX2_enact 8 = .ok (.getfield 21, 3) := by decide +kernel
theorem dX2_enact_11 : decode cX2_enact 11 = .ok (.bipush 14, 2) := by decide +kernel
theorem dX2_enact_13 : decode cX2_enact 13 = .ok (.if_icmp .ge 18, 3) := by decide +kernel
theorem dX2_enact_16 : decode cX2_enact 16 = .ok (.aload_n 1, 1) := by decide +kernel
theorem dX2_enact_17 : decode cX2_enact 17 = .ok (.getfield 38, 3) := by decide +kernel
theorem dX2_enact_20 : decode cX2_enact 20 = .ok (.ifCond .lt 11, 3) := by decide +kernel
theorem dX2_enact_23 : decode cX2_enact 23 = .ok (.aload_n 1, 1) := by decide +kernel
theorem dX2_enact_24 : decode cX2_enact 24 = .ok (.getfield 38, 3) := by decide +kernel
theorem dX2_enact_27 : decode cX2_enact 27 = .ok (.iconst 3, 1) := by decide +kernel
theorem dX2_enact_28 : decode cX2_enact 28 = .ok (.if_icmp .lt 6, 3) := by decide +kernel
theorem dX2_enact_31 : decode cX2_enact 31 = .ok (.ldc 41, 2) := by decide +kernel
theorem dX2_enact_33 : decode cX2_enact 33 = .ok (.ireturn, 1) := by decide +kernel
theorem dX2_enact_34 : decode cX2_enact 34 = .ok (.aload_n 0, 1) := by decide +kernel
theorem dX2_enact_35 : decode cX2_enact 35 = .ok (.getfield 11, 3) := by decide +kernel
theorem dX2_enact_38 : decode cX2_enact 38 = .ok (.aload_n 0, 1) := by decide +kernel
theorem dX2_enact_39 : decode cX2_enact 39 = .ok (.getfield 21, 3) := by decide +kernel
theorem dX2_enact_42 : decode cX2_enact 42 = .ok (.aload_n 1, 1) := by decide +kernel
theorem dX2_enact_43 : decode cX2_enact 43 = .ok (.aastore, 1) := by decide +kernel
theorem dX2_enact_44 : decode cX2_enact 44 = .ok (.aload_n 0, 1) := by decide +kernel
theorem dX2_enact_45 : decode cX2_enact 45 = .ok (.getfield 17, 3) := by decide +kernel
theorem dX2_enact_48 : decode cX2_enact 48 = .ok (.aload_n 1, 1) := by decide +kernel
theorem dX2_enact_49 : decode cX2_enact 49 = .ok (.getfield 38, 3) := by decide +kernel
theorem dX2_enact_52 : decode cX2_enact 52 = .ok (.aload_n 0, 1) := by decide +kernel
theorem dX2_enact_53 : decode cX2_enact 53 = .ok (.getfield 21, 3) := by decide +kernel
theorem dX2_enact_56 : decode cX2_enact 56 = .ok (.iastore, 1) := by decide +kernel
theorem dX2_enact_57 : decode cX2_enact 57 = .ok (.aload_n 0, 1) := by decide +kernel
theorem dX2_enact_58 : decode cX2_enact 58 = .ok (.dup, 1) := by decide +kernel
theorem dX2_enact_59 : decode cX2_enact 59 = .ok (.getfield 21, 3) := by decide +kernel
theorem dX2_enact_62 : decode cX2_enact 62 = .ok (.iconst 1, 1) := by decide +kernel
theorem dX2_enact_63 : decode cX2_enact 63 = .ok (.iadd, 1) := by decide +kernel
theorem dX2_enact_64 : decode cX2_enact 64 = .ok (.putfield 21, 3) := by decide +kernel
theorem dX2_enact_67 : decode cX2_enact 67 = .ok (.aload_n 0, 1) := by decide +kernel
theorem dX2_enact_68 : decode cX2_enact 68 = .ok (.getfield 21, 3) := by decide +kernel
theorem dX2_enact_71 : decode cX2_enact 71 = .ok (.iconst 1, 1) := by decide +kernel
theorem dX2_enact_72 : decode cX2_enact 72 = .ok (.isub, 1) := by decide +kernel
theorem dX2_enact_73 : decode cX2_enact 73 = .ok (.ireturn, 1) := by decide +kernel
abbrev x_X2_enact (E : mh_E) (d mc ms : Nat) (Post : Option Value → mh_H → Prop) : mh_X := (E, yX2_enact, cX2_enact, 2, (some .int), d, mc, ms, Post)
def q_X2_enact_31 (X : mh_X) : mh_PR := s_push (.int (-1000000003)) (s_iret X)
theorem b_X2_enact_31 {E : mh_E} {d mc ms : Nat} {Post : Option Value → mh_H → Prop} : mh_S (x_X2_enact E d mc ms Post) 31 (q_X2_enact_31 (x_X2_enact E d mc ms Post)) := sn_ldc dX2_enact_31 w_1002 (sn_iret rfl dX2_enact_33)
def q_X2_enact_0 (X : mh_X) : mh_PR := s_al 0 (s_gi 2 2 (s_if1 (fun x => x < 0) (q_X2_enact_31 X) (s_al 0 (s_gi 2 2 (s_push (.int (14)) (s_if2 (fun x y => y ≤ x) (q_X2_enact_31 X) (s_al 1 (s_gi 8 0 (s_if1 (fun x => x < 0) (q_X2_enact_31 X) (s_al 1 (s_gi 8 0 (s_push (.int (3)) (s_if2 (fun x y => x < y) (s_al 0 (s_gr 2 0 (s_al 0 (s_gi 2 2 (s_al 1 (s_aast 7 8 (s_al 0 (s_gr 2 1 (s_al 1 (s_gi 8 0 (s_al 0 (s_gi 2 2 (s_ast 0 (fun x => x) (s_al 0 (s_dup (s_gi 2 2 (s_push (.int (1)) (s_bin (fun x y => x + y) (s_pi 2 2 (s_al 0 (s_gi 2 2 (s_push (.int (1)) (s_bin (fun x y => x - y) (s_iret X)))))))))))))))))))))))) (q_X2_enact_31 X))))))))))))))
theorem b_X2_enact_0 {E : mh_E} {d mc ms : Nat} {Post : Option Value → mh_H → Prop} : mh_S (x_X2_enact E d mc ms Post) 0 (q_X2_enact_0 (x_X2_enact E d mc ms Post)) := sn_aload_n dX2_enact_0 rfl (sn_geti clX2 (by decide) w_126 dX2_enact_1 (sn_if_lt (tgt := 31) dX2_enact_4 (by decide) (b_X2_enact_31) (sn_aload_n dX2_enact_7 rfl (sn_geti clX2 (by decide) w_126 dX2_enact_8 (sn_bipush dX2_enact_11 (by decide) (sn_icmp_ge (tgt := 31) dX2_enact_13 (by decide) (b_X2_enact_31) (sn_aload_n dX2_enact_16 rfl (sn_geti clX8 (by decide) w_979 dX2_enact_17 (sn_if_lt (tgt := 31) dX2_enact_20 (by decide) (b_X2_enact_31) (sn_aload_n dX2_enact_23 rfl (sn_geti clX8 (by decide) w_979 dX2_enact_24 (sn_iconst dX2_enact_27 (by decide) (sn_icmp_lt (tgt := 34) dX2_enact_28 (by decide) (sn_aload_n dX2_enact_34 rfl (sn_getr clX2 (by decide) w_124 dX2_enact_35 (sn_aload_n dX2_enact_38 rfl (sn_geti clX2 (by decide) w_126 dX2_enact_39 (sn_aload_n dX2_enact_42 rfl (sn_aastore clX8 (by decide) rfl dX2_enact_43 (sn_aload_n dX2_enact_44 rfl (sn_getr clX2 (by decide) w_125 dX2_enact_45 (sn_aload_n dX2_enact_48 rfl (sn_geti clX8 (by decide) w_979 dX2_enact_49 (sn_aload_n dX2_enact_52 rfl (sn_geti clX2 (by decide) w_126 dX2_enact_53 (sn_iastore dX2_enact_56 (sn_aload_n dX2_enact_57 rfl (sn_dup dX2_enact_58 (sn_geti clX2 (by decide) w_126 dX2_enact_59 (sn_iconst dX2_enact_62 (by decide) (sn_iadd dX2_enact_63 (sn_puti clX2 (by decide) w_126 rfl rfl dX2_enact_64 (sn_aload_n dX2_enact_67 rfl (sn_geti clX2 (by decide) w_126 dX2_enact_68 (sn_iconst dX2_enact_71 (by decide) (sn_isub dX2_enact_72 (sn_iret rfl dX2_enact_73)))))))))))))))))))))))) (b_X2_enact_31))))))))))))))
theorem m_X2_enact {E : mh_E} {d mc ms : Nat} {args : List Value} {h : mh_H} {Post : Option Value → mh_H → Prop} (lv : List (Option Value)) (hl : lv_args 0 args = mh_al 0 lv) (hs : (lg_sl args).length ≤ 2) (hG : q_X2_enact_0 (x_X2_enact E d mc ms Post) lv [] h 0 0) : mh_M E d mc ms yX2_enact args h Post := mh_M.of w_1001 (by decide) (by decide) hl hs (b_X2_enact_0 _ _ _ _ _ hG)
theorem dX2_numbered_0 : decode cX2_numbered 0 = .ok (.iload_n 1, 1) := by decide +kernel
theorem dX2_numbered_1 : decode cX2_numbered 1 = .ok (.ifCond .lt 26, 3) := by decide +kernel
theorem dX2_numbered_4 : decode cX2_numbered 4 = .ok (.iload_n 1, 1) := by decide +kernel
theorem dX2_numbered_5 : decode cX2_numbered 5 = .ok (.aload_n 0, 1) := by decide +kernel
theorem dX2_numbered_6 : decode cX2_numbered 6 = .ok (.getfield 21, 3) := by decide +kernel
theorem dX2_numbered_9 : decode cX2_numbered 9 = .ok (.if_icmp .ge 18, 3) := by decide +kernel
theorem dX2_numbered_12 : decode cX2_numbered 12 = .ok (.iload_n 1, 1) := by decide +kernel
theorem dX2_numbered_13 : decode cX2_numbered 13 = .ok (.bipush 14, 2) := by decide +kernel
theorem dX2_numbered_15 : decode cX2_numbered 15 = .ok (.if_icmp .ge 12, 3) := by decide +kernel
theorem dX2_numbered_18 : decode cX2_numbered 18 = .ok (.aload_n 0, 1) := by decide +kernel
theorem dX2_numbered_19 : decode cX2_numbered 19 = .ok (.getfield 11, 3) := by decide +kernel
theorem dX2_numbered_22 : decode cX2_numbered 22 = .ok (.iload_n 1, 1) := by decide +kernel
theorem dX2_numbered_23 : decode cX2_numbered 23 = .ok (.aaload, 1) := by decide +kernel
theorem dX2_numbered_24 : decode cX2_numbered 24 = .ok (.goto 4, 3) := by decide +kernel
theorem dX2_numbered_27 : decode cX2_numbered 27 = .ok (.aconst_null, 1) := by decide +kernel
theorem dX2_numbered_28 : decode cX2_numbered 28 = .ok (.areturn, 1) := by decide +kernel
abbrev x_X2_numbered (E : mh_E) (d mc ms : Nat) (Post : Option Value → mh_H → Prop) : mh_X := (E, yX2_numbered, cX2_numbered, 2, (some (.object "StonesToCome$Text")), d, mc, ms, Post)
def q_X2_numbered_28 (X : mh_X) : mh_PR := s_aret X
theorem b_X2_numbered_28 {E : mh_E} {d mc ms : Nat} {Post : Option Value → mh_H → Prop} : mh_S (x_X2_numbered E d mc ms Post) 28 (q_X2_numbered_28 (x_X2_numbered E d mc ms Post)) := sn_aret rfl (Or.inl ⟨_, rfl⟩) dX2_numbered_28
def q_X2_numbered_27 (X : mh_X) : mh_PR := s_push .null (q_X2_numbered_28 X)
theorem b_X2_numbered_27 {E : mh_E} {d mc ms : Nat} {Post : Option Value → mh_H → Prop} : mh_S (x_X2_numbered E d mc ms Post) 27 (q_X2_numbered_27 (x_X2_numbered E d mc ms Post)) := sn_null dX2_numbered_27 b_X2_numbered_28
def q_X2_numbered_0 (X : mh_X) : mh_PR := s_il 1 (s_if1 (fun x => x < 0) (q_X2_numbered_27 X) (s_il 1 (s_al 0 (s_gi 2 2 (s_if2 (fun x y => y ≤ x) (q_X2_numbered_27 X) (s_il 1 (s_push (.int (14)) (s_if2 (fun x y => y ≤ x) (q_X2_numbered_27 X) (s_al 0 (s_gr 2 0 (s_il 1 (s_aald 7 (q_X2_numbered_28 X)))))))))))))
theorem b_X2_numbered_0 {E : mh_E} {d mc ms : Nat} {Post : Option Value → mh_H → Prop} : mh_S (x_X2_numbered E d mc ms Post) 0 (q_X2_numbered_0 (x_X2_numbered E d mc ms Post)) := sn_iload_n dX2_numbered_0 rfl (sn_if_lt (tgt := 27) dX2_numbered_1 (by decide) (b_X2_numbered_27) (sn_iload_n dX2_numbered_4 rfl (sn_aload_n dX2_numbered_5 rfl (sn_geti clX2 (by decide) w_126 dX2_numbered_6 (sn_icmp_ge (tgt := 27) dX2_numbered_9 (by decide) (b_X2_numbered_27) (sn_iload_n dX2_numbered_12 rfl (sn_bipush dX2_numbered_13 (by decide) (sn_icmp_ge (tgt := 27) dX2_numbered_15 (by decide) (b_X2_numbered_27) (sn_aload_n dX2_numbered_18 rfl (sn_getr clX2 (by decide) w_124 dX2_numbered_19 (sn_iload_n dX2_numbered_22 rfl (sn_aaload (by decide) rfl dX2_numbered_23 (sn_goto (tgt := 28) dX2_numbered_24 (by decide) (b_X2_numbered_28))))))))))))))
theorem m_X2_numbered {E : mh_E} {d mc ms : Nat} {args : List Value} {h : mh_H} {Post : Option Value → mh_H → Prop} (lv : List (Option Value)) (hl : lv_args 0 args = mh_al 0 lv) (hs : (lg_sl args).length ≤ 2) (hG : q_X2_numbered_0 (x_X2_numbered E d mc ms Post) lv [] h 0 0) : mh_M E d mc ms yX2_numbered args h Post := mh_M.of w_438 (by decide) (by decide) hl hs (b_X2_numbered_0 _ _ _ _ _ hG)
theorem dX2_lastOf_0 : decode cX2_lastOf 0 = .ok (.iload_n 1, 1) := by decide +kernel
theorem dX2_lastOf_1 : decode cX2_lastOf 1 = .ok (.ifCond .lt 17, 3) := by decide +kernel
theorem dX2_lastOf_4 : decode cX2_lastOf 4 = .ok (.iload_n 1, 1) := by decide +kernel
theorem dX2_lastOf_5 : decode cX2_lastOf 5 = .ok (.iconst 3, 1) := by decide +kernel
theorem dX2_lastOf_6 : decode cX2_lastOf 6 = .ok (.if_icmp .ge 12, 3) := by decide +kernel
theorem dX2_lastOf_9 : decode cX2_lastOf 9 = .ok (.aload_n 0, 1) := by decide +kernel
theorem dX2_lastOf_10 : decode cX2_lastOf 10 = .ok (.getfield 17, 3) := by decide +kernel
theorem dX2_lastOf_13 : decode cX2_lastOf 13 = .ok (.iload_n 1, 1) := by decide +kernel
theorem dX2_lastOf_14 : decode cX2_lastOf 14 = .ok (.iaload, 1) := by decide +kernel
theorem dX2_lastOf_15 : decode cX2_lastOf 15 = .ok (.goto 5, 3) := by decide +kernel
theorem dX2_lastOf_18 : decode cX2_lastOf 18 = .ok (.ldc 25, 2) := by decide +kernel
theorem dX2_lastOf_20 : decode cX2_lastOf 20 = .ok (.ireturn, 1) := by decide +kernel
abbrev x_X2_lastOf (E : mh_E) (d mc ms : Nat) (Post : Option Value → mh_H → Prop) : mh_X := (E, yX2_lastOf, cX2_lastOf, 2, (some .int), d, mc, ms, Post)
def q_X2_lastOf_20 (X : mh_X) : mh_PR := s_iret X
theorem b_X2_lastOf_20 {E : mh_E} {d mc ms : Nat} {Post : Option Value → mh_H → Prop} : mh_S (x_X2_lastOf E d mc ms Post) 20 (q_X2_lastOf_20 (x_X2_lastOf E d mc ms Post)) := sn_iret rfl dX2_lastOf_20
def q_X2_lastOf_18 (X : mh_X) : mh_PR := s_push (.int (-1000000005)) (q_X2_lastOf_20 X)
theorem b_X2_lastOf_18 {E : mh_E} {d mc ms : Nat} {Post : Option Value → mh_H → Prop} : mh_S (x_X2_lastOf E d mc ms Post) 18 (q_X2_lastOf_18 (x_X2_lastOf E d mc ms Post)) := sn_ldc dX2_lastOf_18 w_120 b_X2_lastOf_20
def q_X2_lastOf_0 (X : mh_X) : mh_PR := s_il 1 (s_if1 (fun x => x < 0) (q_X2_lastOf_18 X) (s_il 1 (s_push (.int (3)) (s_if2 (fun x y => y ≤ x) (q_X2_lastOf_18 X) (s_al 0 (s_gr 2 1 (s_il 1 (s_ald 0 (q_X2_lastOf_20 X)))))))))
theorem b_X2_lastOf_0 {E : mh_E} {d mc ms : Nat} {Post : Option Value → mh_H → Prop} : mh_S (x_X2_lastOf E d mc ms Post) 0 (q_X2_lastOf_0 (x_X2_lastOf E d mc ms Post)) := sn_iload_n dX2_lastOf_0 rfl (sn_if_lt (tgt := 18) dX2_lastOf_1 (by decide) (b_X2_lastOf_18) (sn_iload_n dX2_lastOf_4 rfl (sn_iconst dX2_lastOf_5 (by decide) (sn_icmp_ge (tgt := 18) dX2_lastOf_6 (by decide) (b_X2_lastOf_18) (sn_aload_n dX2_lastOf_9 rfl (sn_getr clX2 (by decide) w_125 dX2_lastOf_10 (sn_iload_n dX2_lastOf_13 rfl (sn_iaload dX2_lastOf_14 (sn_goto (tgt := 20) dX2_lastOf_15 (by decide) (b_X2_lastOf_20))))))))))
theorem m_X2_lastOf {E : mh_E} {d mc ms : Nat} {args : List Value} {h : mh_H} {Post : Option Value → mh_H → Prop} (lv : List (Option Value)) (hl : lv_args 0 args = mh_al 0 lv) (hs : (lg_sl args).length ≤ 2) (hG : q_X2_lastOf_0 (x_X2_lastOf E d mc ms Post) lv [] h 0 0) : mh_M E d mc ms yX2_lastOf args h Post := mh_M.of w_434 (by decide) (by decide) hl hs (b_X2_lastOf_0 _ _ _ _ _ hG)
theorem dX2_given_0 : decode cX2_given 0 = .ok (.aload_n 0, 1) := by decide +kernel
theorem dX2_given_1 : decode cX2_given 1 = .ok (.aload_n 0, 1) := by decide +kernel
theorem dX2_given_2 : decode cX2_given 2 = .ok (.iload_n 1, 1) := by decide +kernel
theorem dX2_given_3 : decode cX2_given 3 = .ok (.invokevirtual 42, 3) := by decide +kernel
theorem dX2_given_6 : decode cX2_given 6 = .ok (.invokevirtual 46, 3) := by decide +kernel
theorem dX2_given_9 : decode cX2_given 9 = .ok (.astore 6, 2) := by decide +kernel
theorem dX2_given_11 : decode cX2_given 11 = .ok (.aload 6, 2) := by decide +kernel
theorem dX2_given_13 : decode cX2_given 13 = .ok (.ifnonnull 8, 3) := by decide +kernel
theorem dX2_given_16 : decode cX2_given 16 = .ok (.iload 5, 2) := by decide +kernel
theorem dX2_given_18 : decode cX2_given 18 = .ok (.goto 12, 3) := by decide +kernel
theorem dX2_given_21 : decode cX2_given 21 = .ok (.aload 6, 2) := by decide +kernel
theorem dX2_given_23 : decode cX2_given 23 = .ok (.iload_n 2, 1) := by decide +kernel
theorem dX2_given_24 : decode cX2_given 24 = .ok (.iload_n 3, 1) := by decide +kernel
theorem dX2_given_25 : decode cX2_given 25 = .ok (.iload 4, 2) := by decide +kernel
theorem dX2_given_27 : decode cX2_given 27 = .ok (.invokevirtual 50, 3) := by decide +kernel
theorem dX2_given_30 : decode cX2_given 30 = .ok (.ireturn, 1) := by decide +kernel
abbrev x_X2_given (E : mh_E) (d mc ms : Nat) (Post : Option Value → mh_H → Prop) : mh_X := (E, yX2_given, cX2_given, 7, (some .int), d, mc, ms, Post)
def q_X2_given_30 (X : mh_X) : mh_PR := s_iret X
theorem b_X2_given_30 {E : mh_E} {d mc ms : Nat} {Post : Option Value → mh_H → Prop} : mh_S (x_X2_given E d mc ms Post) 30 (q_X2_given_30 (x_X2_given E d mc ms Post)) := sn_iret rfl dX2_given_30
def q_X2_given_0 (X : mh_X) : mh_PR := s_al 0 (s_al 0 (s_il 1 (s_cv X yX2_lastOf 2 1 (s_cv X yX2_numbered 2 1 (s_as 6 (s_al 6 (s_ifn (s_il 5 (q_X2_given_30 X)) (s_al 6 (s_il 2 (s_il 3 (s_il 4 (s_cv X yX8_gives 8 3 (q_X2_given_30 X)))))))))))))
theorem b_X2_given_0 {E : mh_E} {d mc ms : Nat} {Post : Option Value → mh_H → Prop} : mh_S (x_X2_given E d mc ms Post) 0 (q_X2_given_0 (x_X2_given E d mc ms Post)) := sn_aload_n dX2_given_0 rfl (sn_aload_n dX2_given_1 rfl (sn_iload_n dX2_given_2 rfl (sn_cv w_431 w_432 w_433 w_59 rfl nm_X2_lastOf dX2_given_3 (sn_cv w_435 w_436 w_437 w_59 rfl nm_X2_numbered dX2_given_6 (sn_astore dX2_given_9 (Nat.le_of_ble_eq_true rfl) (sn_aload dX2_given_11 (sn_ifnonnull (tgt := 21) dX2_given_13 (by decide) (sn_aload dX2_given_21 (sn_iload_n dX2_given_23 rfl (sn_iload_n dX2_given_24 rfl (sn_iload dX2_given_25 (sn_cv w_439 w_440 w_441 w_68 rfl nm_X8_gives dX2_given_27 b_X2_given_30))))) (sn_iload dX2_given_16 (sn_goto (tgt := 30) dX2_given_18 (by decide) (b_X2_given_30))))))))))
theorem m_X2_given {E : mh_E} {d mc ms : Nat} {args : List Value} {h : mh_H} {Post : Option Value → mh_H → Prop} (lv : List (Option Value)) (hl : lv_args 0 args = mh_al 0 lv) (hs : (lg_sl args).length ≤ 7) (hG : q_X2_given_0 (x_X2_given E d mc ms Post) lv [] h 0 0) : mh_M E d mc ms yX2_given args h Post := mh_M.of w_430 (by decide) (by decide) hl hs (b_X2_given_0 _ _ _ _ _ hG)
theorem dX4_init_0 : decode cX4_init 0 = .ok (.aload_n 0, 1) := by decide +kernel
theorem dX4_init_1 : decode cX4_init 1 = .ok (.invokespecial 3, 3) := by decide +kernel
theorem dX4_init_4 : decode cX4_init 4 = .ok (.aload_n 0, 1) := by decide +kernel
theorem dX4_init_5 : decode cX4_init 5 = .ok (.bipush 24, 2) := by decide +kernel
theorem dX4_init_7 : decode cX4_init 7 = .ok (.newarray .int, 2) := by decide +kernel
theorem dX4_init_9 : decode cX4_init 9 = .ok (.putfield 9, 3) := by decide +kernel
theorem dX4_init_12 : decode cX4_init 12 = .ok (.aload_n 0, 1) := by decide +kernel
theorem dX4_init_13 : decode cX4_init 13 = .ok (.iconst (-1), 1) := by decide +kernel
theorem dX4_init_14 : decode cX4_init 14 = .ok (.putfield 15, 3) := by decide +kernel
theorem dX4_init_17 : decode cX4_init 17 = .ok (.aload_n 0, 1) := by decide +kernel
theorem dX4_init_18 : decode cX4_init 18 = .ok (.iconst 0, 1) := by decide +kernel
theorem dX4_init_19 : decode cX4_init 19 = .ok (.putfield 19, 3) := by decide +kernel
theorem dX4_init_22 : decode cX4_init 22 = .ok (.return_, 1) := by decide +kernel
abbrev x_X4_init (E : mh_E) (d mc ms : Nat) (Post : Option Value → mh_H → Prop) : mh_X := (E, yX4_init, cX4_init, 1, none, d, mc, ms, Post)
def q_X4_init_0 (X : mh_X) : mh_PR := s_al 0 (s_oi X (s_al 0 (s_push (.int (24)) (s_newa X 0 (s_pr 4 0 (s_al 0 (s_push (.int (-1)) (s_pi 4 1 (s_al 0 (s_push (.int (0)) (s_pi 4 2 (s_vret X))))))))))))
theorem b_X4_init_0 {E : mh_E} {d mc ms : Nat} {Post : Option Value → mh_H → Prop} : mh_S (x_X4_init E d mc ms Post) 0 (q_X4_init_0 (x_X4_init E d mc ms Post)) := sn_aload_n dX4_init_0 rfl (sn_oi w_294 w_82 w_oi dX4_init_1 (sn_aload_n dX4_init_4 rfl (sn_bipush dX4_init_5 (by decide) (sn_newint w_109 dX4_init_7 (sn_putrF clX4 (by decide) w_295 rfl rfl rfl (Or.inr ⟨_, rfl⟩) dX4_init_9 (sn_aload_n dX4_init_12 rfl (sn_iconst dX4_init_13 (by decide) (sn_puti clX4 (by decide) w_297 rfl rfl dX4_init_14 (sn_aload_n dX4_init_17 rfl (sn_iconst dX4_init_18 (by decide) (sn_puti clX4 (by decide) w_299 rfl rfl dX4_init_19 (sn_vret rfl dX4_init_22))))))))))))
theorem m_X4_init {E : mh_E} {d mc ms : Nat} {args : List Value} {h : mh_H} {Post : Option Value → mh_H → Prop} (lv : List (Option Value)) (hl : lv_args 0 args = mh_al 0 lv) (hs : (lg_sl args).length ≤ 1) (hG : q_X4_init_0 (x_X4_init E d mc ms Post) lv [] h 0 0) : mh_M E d mc ms yX4_init args h Post := mh_M.of w_293 (by decide) (by decide) hl hs (b_X4_init_0 _ _ _ _ _ hG)
theorem dX4_isMissing_0 : decode cX4_isMissing 0 = .ok (.aload_n 0, 1) := by decide +kernel
theorem dX4_isMissing_1 : decode cX4_isMissing 1 = .ok (.getfield 15, 3) := by decide +kernel
theorem dX4_isMissing_4 : decode cX4_isMissing 4 = .ok (.iconst (-1), 1) := by decide +kernel
theorem dX4_isMissing_5 : decode cX4_isMissing 5 = .ok (.if_icmp .ne 7, 3) := by decide +kernel
theorem dX4_isMissing_8 : decode cX4_isMissing 8 = .ok (.iconst 1, 1) := by decide +kernel
theorem dX4_isMissing_9 : decode cX4_isMissing 9 = .ok (.goto 4, 3) := by decide +kernel
theorem dX4_isMissing_12 : decode cX4_isMissing 12 = .ok (.iconst 0, 1) := by decide +kernel
theorem dX4_isMissing_13 : decode cX4_isMissing 13 = .ok (.ireturn, 1) := by decide +kernel
abbrev x_X4_isMissing (E : mh_E) (d mc ms : Nat) (Post : Option Value → mh_H → Prop) : mh_X := (E, yX4_isMissing, cX4_isMissing, 1, (some .boolean), d, mc, ms, Post)
def q_X4_isMissing_13 (X : mh_X) : mh_PR := s_zret X
theorem b_X4_isMissing_13 {E : mh_E} {d mc ms : Nat} {Post : Option Value → mh_H → Prop} : mh_S (x_X4_isMissing E d mc ms Post) 13 (q_X4_isMissing_13 (x_X4_isMissing E d mc ms Post)) := sn_zret rfl dX4_isMissing_13
def q_X4_isMissing_0 (X : mh_X) : mh_PR := s_al 0 (s_gi 4 1 (s_push (.int (-1)) (s_if2 (fun x y => ¬ x = y) (s_push (.int (0)) (q_X4_isMissing_13 X)) (s_push (.int (1)) (q_X4_isMissing_13 X)))))
theorem b_X4_isMissing_0 {E : mh_E} {d mc ms : Nat} {Post : Option Value → mh_H → Prop} : mh_S (x_X4_isMissing E d mc ms Post) 0 (q_X4_isMissing_0 (x_X4_isMissing E d mc ms Post)) := sn_aload_n dX4_isMissing_0 rfl (sn_geti clX4 (by decide) w_297 dX4_isMissing_1 (sn_iconst dX4_isMissing_4 (by decide) (sn_icmp_ne (tgt := 12) dX4_isMissing_5 (by decide) (sn_iconst dX4_isMissing_12 (by decide) b_X4_isMissing_13) (sn_iconst dX4_isMissing_8 (by decide) (sn_goto (tgt := 13) dX4_isMissing_9 (by decide) (b_X4_isMissing_13))))))
theorem m_X4_isMissing {E : mh_E} {d mc ms : Nat} {args : List Value} {h : mh_H} {Post : Option Value → mh_H → Prop} (lv : List (Option Value)) (hl : lv_args 0 args = mh_al 0 lv) (hs : (lg_sl args).length ≤ 1) (hG : q_X4_isMissing_0 (x_X4_isMissing E d mc ms Post) lv [] h 0 0) : mh_M E d mc ms yX4_isMissing args h Post := mh_M.of w_732 (by decide) (by decide) hl hs (b_X4_isMissing_0 _ _ _ _ _ hG)
theorem dX4_clear_0 : decode cX4_clear 0 = .ok (.aload_n 0, 1) := by decide +kernel
theorem dX4_clear_1 : decode cX4_clear 1 = .ok (.getfield 9, 3) := by decide +kernel
theorem dX4_clear_4 : decode cX4_clear 4 = .ok (.iconst 0, 1) := by decide +kernel
theorem dX4_clear_5 : decode cX4_clear 5 = .ok (.invokestatic 22, 3) := by decide +kernel
theorem dX4_clear_8 : decode cX4_clear 8 = .ok (.aload_n 0, 1) := by decide +kernel
theorem dX4_clear_9 : decode cX4_clear 9 = .ok (.iload_n 1, 1) := by decide +kernel
theorem dX4_clear_10 : decode cX4_clear 10 = .ok (.putfield 15, 3) := by decide +kernel
theorem dX4_clear_13 : decode cX4_clear 13 = .ok (.aload_n 0, 1) := by decide +kernel
theorem dX4_clear_14 : decode cX4_clear 14 = .ok (.iload_n 2, 1) := by decide +kernel
theorem dX4_clear_15 : decode cX4_clear 15 = .ok (.putfield 19, 3) := by decide +kernel
theorem dX4_clear_18 : decode cX4_clear 18 = .ok (.return_, 1) := by decide +kernel
abbrev x_X4_clear (E : mh_E) (d mc ms : Nat) (Post : Option Value → mh_H → Prop) : mh_X := (E, yX4_clear, cX4_clear, 3, none, d, mc, ms, Post)
def q_X4_clear_0 (X : mh_X) : mh_PR := s_al 0 (s_gr 4 0 (s_push (.int (0)) (s_cs X yJ7_fill_53178 2 (s_al 0 (s_il 1 (s_pi 4 1 (s_al 0 (s_il 2 (s_pi 4 2 (s_vret X))))))))))
theorem b_X4_clear_0 {E : mh_E} {d mc ms : Nat} {Post : Option Value → mh_H → Prop} : mh_S (x_X4_clear E d mc ms Post) 0 (q_X4_clear_0 (x_X4_clear E d mc ms Post)) := sn_aload_n dX4_clear_0 rfl (sn_getr clX4 (by decide) w_295 dX4_clear_1 (sn_iconst dX4_clear_4 (by decide) (sn_cs w_1021 w_122 w_60 nm_J7_fill_53178 dX4_clear_5 (sn_aload_n dX4_clear_8 rfl (sn_iload_n dX4_clear_9 rfl (sn_puti clX4 (by decide) w_297 rfl rfl dX4_clear_10 (sn_aload_n dX4_clear_13 rfl (sn_iload_n dX4_clear_14 rfl (sn_puti clX4 (by decide) w_299 rfl rfl dX4_clear_15 (sn_vret rfl dX4_clear_18))))))))))
theorem m_X4_clear {E : mh_E} {d mc ms : Nat} {args : List Value} {h : mh_H} {Post : Option Value → mh_H → Prop} (lv : List (Option Value)) (hl : lv_args 0 args = mh_al 0 lv) (hs : (lg_sl args).length ≤ 3) (hG : q_X4_clear_0 (x_X4_clear E d mc ms Post) lv [] h 0 0) : mh_M E d mc ms yX4_clear args h Post := mh_M.of w_1020 (by decide) (by decide) hl hs (b_X4_clear_0 _ _ _ _ _ hG)
theorem dX4_become_0 : decode cX4_become 0 = .ok (.aload_n 1, 1) := by decide +kernel
theorem dX4_become_1 : decode cX4_become 1 = .ok (.getfield 9, 3) := by decide +kernel
theorem dX4_become_4 : decode cX4_become 4 = .ok (.iconst 0, 1) := by decide +kernel
theorem dX4_become_5 : decode cX4_become 5 = .ok (.aload_n 0, 1) := by decide +kernel
theorem dX4_become_6 : decode cX4_become 6 = .ok (.getfield 9, 3) := by decide +kernel
theorem dX4_become_9 : decode cX4_become 9 = .ok (.iconst 0, 1) := by decide +kernel
theorem dX4_become_10 : decode cX4_become 10 = .ok (.bipush 24, 2) := by decide +kernel
theorem dX4_become_12 : decode cX4_become 12 = .ok (.invokestatic 28, 3) := by decide +kernel
theorem dX4_become_15 : decode cX4_become 15 = .ok (.aload_n 0, 1) := by decide +kernel
theorem dX4_become_16 : decode cX4_become 16 = .ok (.aload_n 1, 1) := by decide +kernel
theorem dX4_become_17 : decode cX4_become 17 = .ok (.getfield 15, 3) := by decide +kernel
theorem dX4_become_20 : decode cX4_become 20 = .ok (.putfield 15, 3) := by decide +kernel
theorem dX4_become_23 : decode cX4_become 23 = .ok (.aload_n 0, 1) := by decide +kernel
theorem dX4_become_24 : decode cX4_become 24 = .ok (.aload_n 1, 1) := by decide +kernel
theorem dX4_become_25 : decode cX4_become 25 = .ok (.getfield 19, 3) := by decide +kernel
theorem dX4_become_28 : decode cX4_become 28 = .ok (.putfield 19, 3) := by decide +kernel
theorem dX4_become_31 : decode cX4_become 31 = .ok (.return_, 1) := by decide +kernel
abbrev x_X4_become (E : mh_E) (d mc ms : Nat) (Post : Option Value → mh_H → Prop) : mh_X := (E, yX4_become, cX4_become, 2, none, d, mc, ms, Post)
def q_X4_become_0 (X : mh_X) : mh_PR := s_al 1 (s_gr 4 0 (s_push (.int (0)) (s_al 0 (s_gr 4 0 (s_push (.int (0)) (s_push (.int (24)) (s_ac X (s_al 0 (s_al 1 (s_gi 4 1 (s_pi 4 1 (s_al 0 (s_al 1 (s_gi 4 2 (s_pi 4 2 (s_vret X))))))))))))))))
theorem b_X4_become_0 {E : mh_E} {d mc ms : Nat} {Post : Option Value → mh_H → Prop} : mh_S (x_X4_become E d mc ms Post) 0 (q_X4_become_0 (x_X4_become E d mc ms Post)) := sn_aload_n dX4_become_0 rfl (sn_getr clX4 (by decide) w_295 dX4_become_1 (sn_iconst dX4_become_4 (by decide) (sn_aload_n dX4_become_5 rfl (sn_getr clX4 (by decide) w_295 dX4_become_6 (sn_iconst dX4_become_9 (by decide) (sn_bipush dX4_become_10 (by decide) (sn_ac w_1061 w_acN w_acS w_70 dX4_become_12 (sn_aload_n dX4_become_15 rfl (sn_aload_n dX4_become_16 rfl (sn_geti clX4 (by decide) w_297 dX4_become_17 (sn_puti clX4 (by decide) w_297 rfl rfl dX4_become_20 (sn_aload_n dX4_become_23 rfl (sn_aload_n dX4_become_24 rfl (sn_geti clX4 (by decide) w_299 dX4_become_25 (sn_puti clX4 (by decide) w_299 rfl rfl dX4_become_28 (sn_vret rfl dX4_become_31))))))))))))))))
theorem m_X4_become {E : mh_E} {d mc ms : Nat} {args : List Value} {h : mh_H} {Post : Option Value → mh_H → Prop} (lv : List (Option Value)) (hl : lv_args 0 args = mh_al 0 lv) (hs : (lg_sl args).length ≤ 2) (hG : q_X4_become_0 (x_X4_become E d mc ms Post) lv [] h 0 0) : mh_M E d mc ms yX4_become args h Post := mh_M.of w_1060 (by decide) (by decide) hl hs (b_X4_become_0 _ _ _ _ _ hG)
theorem dX4_has_0 : decode cX4_has 0 = .ok (.iload_n 1, 1) := by decide +kernel
theorem dX4_has_1 : decode cX4_has 1 = .ok (.ifCond .lt 21, 3) := by decide +kernel
theorem dX4_has_4 : decode cX4_has 4 = .ok (.iload_n 1, 1) := by decide +kernel
theorem dX4_has_5 : decode cX4_has 5 = .ok (.aload_n 0, 1) := by decide +kernel
theorem dX4_has_6 : decode cX4_has 6 = .ok (.getfield 19, 3) := by decide +kernel
theorem dX4_has_9 : decode cX4_has 9 = .ok (.if_icmp .ge 13, 3) := by decide +kernel
theorem dX4_has_12 : decode cX4_has 12 = .ok (.iload_n 1, 1) := by decide +kernel
theorem dX4_has_13 : decode cX4_has 13 = .ok (.bipush 24, 2) := by decide +kernel
theorem dX4_has_15 : decode cX4_has 15 = .ok (.if_icmp .ge 7, 3) := by decide +kernel
theorem dX4_has_18 : decode cX4_has 18 = .ok (.iconst 1, 1) := by decide +kernel
theorem dX4_has_19 : decode cX4_has 19 = .ok (.goto 4, 3) := by decide +kernel
theorem dX4_has_22 : decode cX4_has 22 = .ok (.iconst 0, 1) := by decide +kernel
theorem dX4_has_23 : decode cX4_has 23 = .ok (.ireturn, 1) := by decide +kernel
abbrev x_X4_has (E : mh_E) (d mc ms : Nat) (Post : Option Value → mh_H → Prop) : mh_X := (E, yX4_has, cX4_has, 2, (some .boolean), d, mc, ms, Post)
def q_X4_has_23 (X : mh_X) : mh_PR := s_zret X
theorem b_X4_has_23 {E : mh_E} {d mc ms : Nat} {Post : Option Value → mh_H → Prop} : mh_S (x_X4_has E d mc ms Post) 23 (q_X4_has_23 (x_X4_has E d mc ms Post)) := sn_zret rfl dX4_has_23
def q_X4_has_22 (X : mh_X) : mh_PR := s_push (.int (0)) (q_X4_has_23 X)
theorem b_X4_has_22 {E : mh_E} {d mc ms : Nat} {Post : Option Value → mh_H → Prop} : mh_S (x_X4_has E d mc ms Post) 22 (q_X4_has_22 (x_X4_has E d mc ms Post)) := sn_iconst dX4_has_22 (by decide) b_X4_has_23
def q_X4_has_0 (X : mh_X) : mh_PR := s_il 1 (s_if1 (fun x => x < 0) (q_X4_has_22 X) (s_il 1 (s_al 0 (s_gi 4 2 (s_if2 (fun x y => y ≤ x) (q_X4_has_22 X) (s_il 1 (s_push (.int (24)) (s_if2 (fun x y => y ≤ x) (q_X4_has_22 X) (s_push (.int (1)) (q_X4_has_23 X))))))))))
theorem b_X4_has_0 {E : mh_E} {d mc ms : Nat} {Post : Option Value → mh_H → Prop} : mh_S (x_X4_has E d mc ms Post) 0 (q_X4_has_0 (x_X4_has E d mc ms Post)) := sn_iload_n dX4_has_0 rfl (sn_if_lt (tgt := 22) dX4_has_1 (by decide) (b_X4_has_22) (sn_iload_n dX4_has_4 rfl (sn_aload_n dX4_has_5 rfl (sn_geti clX4 (by decide) w_299 dX4_has_6 (sn_icmp_ge (tgt := 22) dX4_has_9 (by decide) (b_X4_has_22) (sn_iload_n dX4_has_12 rfl (sn_bipush dX4_has_13 (by decide) (sn_icmp_ge (tgt := 22) dX4_has_15 (by decide) (b_X4_has_22) (sn_iconst dX4_has_18 (by decide) (sn_goto (tgt := 23) dX4_has_19 (by decide) (b_X4_has_23)))))))))))
theorem m_X4_has {E : mh_E} {d mc ms : Nat} {args : List Value} {h : mh_H} {Post : Option Value → mh_H → Prop} (lv : List (Option Value)) (hl : lv_args 0 args = mh_al 0 lv) (hs : (lg_sl args).length ≤ 2) (hG : q_X4_has_0 (x_X4_has E d mc ms Post) lv [] h 0 0) : mh_M E d mc ms yX4_has args h Post := mh_M.of w_745 (by decide) (by decide) hl hs (b_X4_has_0 _ _ _ _ _ hG)
theorem dX4_hasRun_0 : decode cX4_hasRun 0 = .ok (.iload_n 2, 1) := by decide +kernel
theorem dX4_hasRun_1 : decode cX4_hasRun 1 = .ok (.ifCond .lt 29, 3) := by decide +kernel
theorem dX4_hasRun_4 : decode cX4_hasRun 4 = .ok (.iload_n 1, 1) := by decide +kernel
theorem dX4_hasRun_5 : decode cX4_hasRun 5 = .ok (.ifCond .lt 25, 3) := by decide +kernel
theorem dX4_hasRun_8 : decode cX4_hasRun 8 = .ok (.iload_n 1, 1) := by decide +kernel
theorem dX4_hasRun_9 : decode cX4_hasRun 9 = .ok (.aload_n 0, 1) := by decide +kernel
theorem dX4_hasRun_10 : decode cX4_hasRun 10 = .ok (.getfield 19, 3) := by decide +kernel
theorem dX4_hasRun_13 : decode cX4_hasRun 13 = .ok (.if_icmp .gt 17, 3) := by decide +kernel
theorem dX4_hasRun_16 : decode cX4_hasRun 16 = .ok (.iload_n 2, 1) := by decide +kernel
theorem dX4_hasRun_17 : decode cX4_hasRun 17 = .ok (.aload_n 0, 1) := by decide +kernel
theorem dX4_hasRun_18 : decode cX4_hasRun 18 = .ok (.getfield 19, 3) := by decide +kernel
theorem dX4_hasRun_21 : decode cX4_hasRun 21 = .ok (.iload_n 1, 1) := by decide +kernel
theorem dX4_hasRun_22 : decode cX4_hasRun 22 = .ok (.isub, 1) := by decide +kernel
theorem dX4_hasRun_23 : decode cX4_hasRun 23 = .ok (.if_icmp .gt 7, 3) := by decide +kernel
theorem dX4_hasRun_26 : decode cX4_hasRun 26 = .ok (.iconst 1, 1) := by decide +kernel
theorem dX4_hasRun_27 : decode cX4_hasRun 27 = .ok (.goto 4, 3) := by decide +kernel
theorem dX4_hasRun_30 : decode cX4_hasRun 30 = .ok (.iconst 0, 1) := by decide +kernel
theorem dX4_hasRun_31 : decode cX4_hasRun 31 = .ok (.ireturn, 1) := by decide +kernel
abbrev x_X4_hasRun (E : mh_E) (d mc ms : Nat) (Post : Option Value → mh_H → Prop) : mh_X := (E, yX4_hasRun, cX4_hasRun, 3, (some .boolean), d, mc, ms, Post)
def q_X4_hasRun_31 (X : mh_X) : mh_PR := s_zret X
theorem b_X4_hasRun_31 {E : mh_E} {d mc ms : Nat} {Post : Option Value → mh_H → Prop} : mh_S (x_X4_hasRun E d mc ms Post) 31 (q_X4_hasRun_31 (x_X4_hasRun E d mc ms Post)) := sn_zret rfl dX4_hasRun_31
def q_X4_hasRun_30 (X : mh_X) : mh_PR := s_push (.int (0)) (q_X4_hasRun_31 X)
theorem b_X4_hasRun_30 {E : mh_E} {d mc ms : Nat} {Post : Option Value → mh_H → Prop} : mh_S (x_X4_hasRun E d mc ms Post) 30 (q_X4_hasRun_30 (x_X4_hasRun E d mc ms Post)) := sn_iconst dX4_hasRun_30 (by decide) b_X4_hasRun_31
def q_X4_hasRun_0 (X : mh_X) : mh_PR := s_il 2 (s_if1 (fun x => x < 0) (q_X4_hasRun_30 X) (s_il 1 (s_if1 (fun x => x < 0) (q_X4_hasRun_30 X) (s_il 1 (s_al 0 (s_gi 4 2 (s_if2 (fun x y => y < x) (q_X4_hasRun_30 X) (s_il 2 (s_al 0 (s_gi 4 2 (s_il 1 (s_bin (fun x y => x - y) (s_if2 (fun x y => y < x) (q_X4_hasRun_30 X) (s_push (.int (1)) (q_X4_hasRun_31 X)))))))))))))))
theorem b_X4_hasRun_0 {E : mh_E} {d mc ms : Nat} {Post : Option Value → mh_H → Prop} : mh_S (x_X4_hasRun E d mc ms Post) 0 (q_X4_hasRun_0 (x_X4_hasRun E d mc ms Post)) := sn_iload_n dX4_hasRun_0 rfl (sn_if_lt (tgt := 30) dX4_hasRun_1 (by decide) (b_X4_hasRun_30) (sn_iload_n dX4_hasRun_4 rfl (sn_if_lt (tgt := 30) dX4_hasRun_5 (by decide) (b_X4_hasRun_30) (sn_iload_n dX4_hasRun_8 rfl (sn_aload_n dX4_hasRun_9 rfl (sn_geti clX4 (by decide) w_299 dX4_hasRun_10 (sn_icmp_gt (tgt := 30) dX4_hasRun_13 (by decide) (b_X4_hasRun_30) (sn_iload_n dX4_hasRun_16 rfl (sn_aload_n dX4_hasRun_17 rfl (sn_geti clX4 (by decide) w_299 dX4_hasRun_18 (sn_iload_n dX4_hasRun_21 rfl (sn_isub dX4_hasRun_22 (sn_icmp_gt (tgt := 30) dX4_hasRun_23 (by decide) (b_X4_hasRun_30) (sn_iconst dX4_hasRun_26 (by decide) (sn_goto (tgt := 31) dX4_hasRun_27 (by decide) (b_X4_hasRun_31))))))))))))))))
theorem m_X4_hasRun {E : mh_E} {d mc ms : Nat} {args : List Value} {h : mh_H} {Post : Option Value → mh_H → Prop} (lv : List (Option Value)) (hl : lv_args 0 args = mh_al 0 lv) (hs : (lg_sl args).length ≤ 3) (hG : q_X4_hasRun_0 (x_X4_hasRun E d mc ms Post) lv [] h 0 0) : mh_M E d mc ms yX4_hasRun args h Post := mh_M.of w_1047 (by decide) (by decide) hl hs (b_X4_hasRun_0 _ _ _ _ _ hG)
theorem dX4_valueAt_0 : decode cX4_valueAt 0 = .ok (.aload_n 0, 1) := by decide +kernel
theorem dX4_valueAt_1 : decode cX4_valueAt 1 = .ok (.iload_n 1, 1) := by decide +kernel
theorem dX4_valueAt_2 : decode cX4_valueAt 2 = .ok (.invokevirtual 34, 3) := by decide +kernel
theorem dX4_valueAt_5 : decode cX4_valueAt 5 = .ok (.ifCond .eq 12, 3) := by decide +kernel
theorem dX4_valueAt_8 : decode cX4_valueAt 8 = .ok (.aload_n 0, 1) := by decide +kernel
theorem dX4_valueAt_9 : decode cX4_valueAt 9 = .ok (.getfield 9, 3) := by decide +kernel
theorem dX4_valueAt_12 : decode cX4_valueAt 12 = .ok (.iload_n 1, 1) := by decide +kernel
theorem dX4_valueAt_13 : decode cX4_valueAt 13 = .ok (.iaload, 1) := by decide +kernel
theorem dX4_valueAt_14 : decode cX4_valueAt 14 = .ok (.goto 5, 3) := by decide +kernel
theorem dX4_valueAt_17 : decode cX4_valueAt 17 = .ok (.ldc 38, 2) := by decide +kernel
theorem dX4_valueAt_19 : decode cX4_valueAt 19 = .ok (.ireturn, 1) := by decide +kernel
abbrev x_X4_valueAt (E : mh_E) (d mc ms : Nat) (Post : Option Value → mh_H → Prop) : mh_X := (E, yX4_valueAt, cX4_valueAt, 2, (some .int), d, mc, ms, Post)
def q_X4_valueAt_19 (X : mh_X) : mh_PR := s_iret X
theorem b_X4_valueAt_19 {E : mh_E} {d mc ms : Nat} {Post : Option Value → mh_H → Prop} : mh_S (x_X4_valueAt E d mc ms Post) 19 (q_X4_valueAt_19 (x_X4_valueAt E d mc ms Post)) := sn_iret rfl dX4_valueAt_19
def q_X4_valueAt_0 (X : mh_X) : mh_PR := s_al 0 (s_il 1 (s_cv X yX4_has 4 1 (s_if1 (fun x => x = 0) (s_push (.int (-1000000005)) (q_X4_valueAt_19 X)) (s_al 0 (s_gr 4 0 (s_il 1 (s_ald 0 (q_X4_valueAt_19 X))))))))
theorem b_X4_valueAt_0 {E : mh_E} {d mc ms : Nat} {Post : Option Value → mh_H → Prop} : mh_S (x_X4_valueAt E d mc ms Post) 0 (q_X4_valueAt_0 (x_X4_valueAt E d mc ms Post)) := sn_aload_n dX4_valueAt_0 rfl (sn_iload_n dX4_valueAt_1 rfl (sn_cv w_742 w_743 w_744 w_64 rfl nm_X4_has dX4_valueAt_2 (sn_if_eq (tgt := 17) dX4_valueAt_5 (by decide) (sn_ldc dX4_valueAt_17 w_746 b_X4_valueAt_19) (sn_aload_n dX4_valueAt_8 rfl (sn_getr clX4 (by decide) w_295 dX4_valueAt_9 (sn_iload_n dX4_valueAt_12 rfl (sn_iaload dX4_valueAt_13 (sn_goto (tgt := 19) dX4_valueAt_14 (by decide) (b_X4_valueAt_19)))))))))
theorem m_X4_valueAt {E : mh_E} {d mc ms : Nat} {args : List Value} {h : mh_H} {Post : Option Value → mh_H → Prop} (lv : List (Option Value)) (hl : lv_args 0 args = mh_al 0 lv) (hs : (lg_sl args).length ≤ 2) (hG : q_X4_valueAt_0 (x_X4_valueAt E d mc ms Post) lv [] h 0 0) : mh_M E d mc ms yX4_valueAt args h Post := mh_M.of w_741 (by decide) (by decide) hl hs (b_X4_valueAt_0 _ _ _ _ _ hG)
theorem dX5_init_0 : decode cX5_init 0 = .ok (.aload_n 0, 1) := by decide +kernel
theorem dX5_init_1 : decode cX5_init 1 = .ok (.invokespecial 3, 3) := by decide +kernel
theorem dX5_init_4 : decode cX5_init 4 = .ok (.aload_n 0, 1) := by decide +kernel
theorem dX5_init_5 : decode cX5_init 5 = .ok (.new 9, 3) := by decide +kernel
theorem dX5_init_8 : decode cX5_init 8 = .ok (.dup, 1) := by decide +kernel
theorem dX5_init_9 : decode cX5_init 9 = .ok (.invokespecial 11, 3) := by decide +kernel
theorem dX5_init_12 : decode cX5_init 12 = .ok (.putfield 12, 3) := by decide +kernel
theorem dX5_init_15 : decode cX5_init 15 = .ok (.aload_n 0, 1) := by decide +kernel
theorem dX5_init_16 : decode cX5_init 16 = .ok (.new 18, 3) := by decide +kernel
theorem dX5_init_19 : decode cX5_init 19 = .ok (.dup, 1) := by decide +kernel
theorem dX5_init_20 : decode cX5_init 20 = .ok (.invokespecial 20, 3) := by decide +kernel
theorem dX5_init_23 : decode cX5_init 23 = .ok (.putfield 21, 3) := by decide +kernel
theorem dX5_init_26 : decode cX5_init 26 = .ok (.aload_n 0, 1) := by decide +kernel
theorem dX5_init_27 : decode cX5_init 27 = .ok (.iconst 0, 1) := by decide +kernel
theorem dX5_init_28 : decode cX5_init 28 = .ok (.putfield 25, 3) := by decide +kernel
theorem dX5_init_31 : decode cX5_init 31 = .ok (.aload_n 0, 1) := by decide +kernel
theorem dX5_init_32 : decode cX5_init 32 = .ok (.iconst 0, 1) := by decide +kernel
theorem dX5_init_33 : decode cX5_init 33 = .ok (.putfield 29, 3) := by decide +kernel
theorem dX5_init_36 : decode cX5_init 36 = .ok (.return_, 1) := by decide +kernel
abbrev x_X5_init (E : mh_E) (d mc ms : Nat) (Post : Option Value → mh_H → Prop) : mh_X := (E, yX5_init, cX5_init, 1, none, d, mc, ms, Post)
def q_X5_init_0 (X : mh_X) : mh_PR := s_al 0 (s_oi X (s_al 0 (s_new X 6 6 [.int 0, .int 0, .int 0, .int 0, .int 0, .int 0] (s_dup (s_ci X yX6_init 0 (s_pr 5 0 (s_al 0 (s_new X 4 3 [.null, .int 0, .int 0] (s_dup (s_ci X yX4_init 0 (s_pr 5 1 (s_al 0 (s_push (.int (0)) (s_pi 5 2 (s_al 0 (s_push (.int (0)) (s_pi 5 3 (s_vret X))))))))))))))))))
theorem b_X5_init_0 {E : mh_E} {d mc ms : Nat} {Post : Option Value → mh_H → Prop} : mh_S (x_X5_init E d mc ms Post) 0 (q_X5_init_0 (x_X5_init E d mc ms Post)) := sn_aload_n dX5_init_0 rfl (sn_oi w_312 w_82 w_oi dX5_init_1 (sn_aload_n dX5_init_4 rfl (sn_new clX6 w_313 w_135 w_61 dfX6 dX5_init_5 (sn_dup dX5_init_8 (sn_ciN w_314 w_137 w_61 rfl nm_X6_init dX5_init_9 (sn_putrF clX5 (by decide) w_317 rfl rfl rfl (Or.inl ⟨_, rfl⟩) dX5_init_12 (sn_aload_n dX5_init_15 rfl (sn_new clX4 w_315 w_290 w_64 dfX4 dX5_init_16 (sn_dup dX5_init_19 (sn_ciN w_316 w_292 w_64 rfl nm_X4_init dX5_init_20 (sn_putrF clX5 (by decide) w_319 rfl rfl rfl (Or.inl ⟨_, rfl⟩) dX5_init_23 (sn_aload_n dX5_init_26 rfl (sn_iconst dX5_init_27 (by decide) (sn_puti clX5 (by decide) w_321 rfl rfl dX5_init_28 (sn_aload_n dX5_init_31 rfl (sn_iconst dX5_init_32 (by decide) (sn_puti clX5 (by decide) w_323 rfl rfl dX5_init_33 (sn_vret rfl dX5_init_36))))))))))))))))))
theorem m_X5_init {E : mh_E} {d mc ms : Nat} {args : List Value} {h : mh_H} {Post : Option Value → mh_H → Prop} (lv : List (Option Value)) (hl : lv_args 0 args = mh_al 0 lv) (hs : (lg_sl args).length ≤ 1) (hG : q_X5_init_0 (x_X5_init E d mc ms Post) lv [] h 0 0) : mh_M E d mc ms yX5_init args h Post := mh_M.of w_311 (by decide) (by decide) hl hs (b_X5_init_0 _ _ _ _ _ hG)
theorem dX8_init_0 : decode cX8_init 0 = .ok (.aload_n 0, 1) := by decide +kernel
theorem dX8_init_1 : decode cX8_init 1 = .ok (.invokespecial 1, 3) := by decide +kernel
theorem dX8_init_4 : decode cX8_init 4 = .ok (.aload_n 0, 1) := by decide +kernel
theorem dX8_init_5 : decode cX8_init 5 = .ok (.iconst 0, 1) := by decide +kernel
theorem dX8_init_6 : decode cX8_init 6 = .ok (.putfield 7, 3) := by decide +kernel
theorem dX8_init_9 : decode cX8_init 9 = .ok (.aload_n 0, 1) := by decide +kernel
theorem dX8_init_10 : decode cX8_init 10 = .ok (.iload_n 1, 1) := by decide +kernel
theorem dX8_init_11 : decode cX8_init 11 = .ok (.putfield 13, 3) := by decide +kernel
theorem dX8_init_14 : decode cX8_init 14 = .ok (.aload_n 0, 1) := by decide +kernel
theorem dX8_init_15 : decode cX8_init 15 = .ok (.iload_n 2, 1) := by decide +kernel
theorem dX8_init_16 : decode cX8_init 16 = .ok (.putfield 16, 3) := by decide +kernel
theorem dX8_init_19 : decode cX8_init 19 = .ok (.aload_n 0, 1) := by decide +kernel
theorem dX8_init_20 : decode cX8_init 20 = .ok (.aload_n 3, 1) := by decide +kernel
theorem dX8_init_21 : decode cX8_init 21 = .ok (.putfield 19, 3) := by decide +kernel
theorem dX8_init_24 : decode cX8_init 24 = .ok (.aload_n 0, 1) := by decide +kernel
theorem dX8_init_25 : decode cX8_init 25 = .ok (.aload_n 3, 1) := by decide +kernel
theorem dX8_init_26 : decode cX8_init 26 = .ok (.arraylength, 1) := by decide +kernel
theorem dX8_init_27 : decode cX8_init 27 = .ok (.newarray .int, 2) := by decide +kernel
theorem dX8_init_29 : decode cX8_init 29 = .ok (.putfield 23, 3) := by decide +kernel
theorem dX8_init_32 : decode cX8_init 32 = .ok (.return_, 1) := by decide +kernel
abbrev x_X8_init (E : mh_E) (d mc ms : Nat) (Post : Option Value → mh_H → Prop) : mh_X := (E, yX8_init, cX8_init, 4, none, d, mc, ms, Post)
def q_X8_init_0 (X : mh_X) : mh_PR := s_al 0 (s_oi X (s_al 0 (s_push (.int (0)) (s_pi 8 4 (s_al 0 (s_il 1 (s_pi 8 0 (s_al 0 (s_il 2 (s_pi 8 1 (s_al 0 (s_al 3 (s_pr 8 2 (s_al 0 (s_al 3 (s_alen (s_newa X 0 (s_pr 8 3 (s_vret X)))))))))))))))))))
theorem b_X8_init_0 {E : mh_E} {d mc ms : Nat} {Post : Option Value → mh_H → Prop} : mh_S (x_X8_init E d mc ms Post) 0 (q_X8_init_0 (x_X8_init E d mc ms Post)) := sn_aload_n dX8_init_0 rfl (sn_oi w_977 w_82 w_oi dX8_init_1 (sn_aload_n dX8_init_4 rfl (sn_iconst dX8_init_5 (by decide) (sn_puti clX8 (by decide) w_985 rfl rfl dX8_init_6 (sn_aload_n dX8_init_9 rfl (sn_iload_n dX8_init_10 rfl (sn_putiF clX8 (by decide) w_978 rfl rfl rfl rfl dX8_init_11 (sn_aload_n dX8_init_14 rfl (sn_iload_n dX8_init_15 rfl (sn_putiF clX8 (by decide) w_981 rfl rfl rfl rfl dX8_init_16 (sn_aload_n dX8_init_19 rfl (sn_aload_n dX8_init_20 rfl (sn_putrF clX8 (by decide) w_983 rfl rfl rfl (Or.inr ⟨_, rfl⟩) dX8_init_21 (sn_aload_n dX8_init_24 rfl (sn_aload_n dX8_init_25 rfl (sn_alen dX8_init_26 (sn_newint w_109 dX8_init_27 (sn_putrF clX8 (by decide) w_984 rfl rfl rfl (Or.inr ⟨_, rfl⟩) dX8_init_29 (sn_vret rfl dX8_init_32)))))))))))))))))))
theorem m_X8_init {E : mh_E} {d mc ms : Nat} {args : List Value} {h : mh_H} {Post : Option Value → mh_H → Prop} (lv : List (Option Value)) (hl : lv_args 0 args = mh_al 0 lv) (hs : (lg_sl args).length ≤ 4) (hG : q_X8_init_0 (x_X8_init E d mc ms Post) lv [] h 0 0) : mh_M E d mc ms yX8_init args h Post := mh_M.of w_976 (by decide) (by decide) hl hs (b_X8_init_0 _ _ _ _ _ hG)
theorem dX8_gives_0 : decode cX8_gives 0 = .ok (.aload_n 0, 1) := by decide +kernel
theorem dX8_gives_1 : decode cX8_gives 1 = .ok (.iconst 0, 1) := by decide +kernel
theorem dX8_gives_2 : decode cX8_gives 2 = .ok (.putfield 7, 3) := by decide +kernel
theorem dX8_gives_5 : decode cX8_gives 5 = .ok (.iconst 0, 1) := by decide +kernel
theorem dX8_gives_6 : decode cX8_gives 6 = .ok (.istore 4, 2) := by decide +kernel
theorem dX8_gives_8 : decode cX8_gives 8 = .ok (.iload 4, 2) := by decide +kernel
theorem dX8_gives_10 : decode cX8_gives 10 = .ok (.aload_n 0, 1) := by decide +kernel
theorem dX8_gives_11 : decode cX8_gives 11 = .ok (.getfield 19, 3) := by decide +kernel
theorem dX8_gives_14 : decode cX8_gives 14 = .ok (.arraylength, 1) := by decide +kernel
theorem dX8_gives_15 : decode cX8_gives 15 = .ok (.if_icmp .ge 134, 3) := by decide +kernel
theorem dX8_gives_18 : decode cX8_gives 18 = .ok (.aload_n 0, 1) := by decide +kernel
theorem dX8_gives_19 : decode cX8_gives 19 = .ok (.getfield 19, 3) := by decide +kernel
theorem dX8_gives_22 : decode cX8_gives 22 = .ok (.iload 4, 2) := by decide +kernel
theorem dX8_gives_24 : decode cX8_gives 24 = .ok (.iaload, 1) := by decide +kernel
theorem dX8_gives_25 : decode cX8_gives 25 = .ok (.istore 5, 2) := by decide +kernel
theorem dX8_gives_27 : decode cX8_gives 27 = .ok (.iload 5, 2) := by decide +kernel
theorem dX8_gives_29 : decode cX8_gives 29 = .ok (.lookupswitch 86 #[(-33, 67), (-3, 59), (-2, 51), (-1, 43)], 43) := by decide +kernel
theorem dX8_gives_72 : decode cX8_gives 72 = .ok (.aload_n 0, 1) := by decide +kernel
theorem dX8_gives_73 : decode cX8_gives 73 = .ok (.iload_n 1, 1) := by decide +kernel
theorem dX8_gives_74 : decode cX8_gives 74 = .ok (.invokevirtual 26, 3) := by decide +kernel
theorem dX8_gives_77 : decode cX8_gives 77 = .ok (.goto 66, 3) := by decide +kernel
theorem dX8_gives_80 : decode cX8_gives 80 = .ok (.aload_n 0, 1) := by decide +kernel
theorem dX8_gives_81 : decode cX8_gives 81 = .ok (.iload_n 2, 1) := by decide +kernel
theorem dX8_gives_82 : decode cX8_gives 82 = .ok (.invokevirtual 26, 3) := by decide +kernel
theorem dX8_gives_85 : decode cX8_gives 85 = .ok (.goto 58, 3) := by decide +kernel
theorem dX8_gives_88 : decode cX8_gives 88 = .ok (.aload_n 0, 1) := by decide +kernel
theorem dX8_gives_89 : decode cX8_gives 89 = .ok (.iload_n 3, 1) := by decide +kernel
theorem dX8_gives_90 : decode cX8_gives 90 = .ok (.invokevirtual 26, 3) := by decide +kernel
theorem dX8_gives_93 : decode cX8_gives 93 = .ok (.goto 50, 3) := by decide +kernel
theorem dX8_gives_96 : decode cX8_gives 96 = .ok (.aload_n 0, 1) := by decide +kernel
theorem dX8_gives_97 : decode cX8_gives 97 = .ok (.aload_n 0, 1) := by decide +kernel
theorem dX8_gives_98 : decode cX8_gives 98 = .ok (.invokevirtual 30, 3) := by decide +kernel
theorem dX8_gives_101 : decode cX8_gives 101 = .ok (.ifCond .ne 7, 3) := by decide +kernel
theorem dX8_gives_104 : decode cX8_gives 104 = .ok (.iconst 1, 1) := by decide +kernel
theorem dX8_gives_105 : decode cX8_gives 105 = .ok (.goto 4, 3) := by decide +kernel
theorem dX8_gives_108 : decode cX8_gives 108 = .ok (.iconst 0, 1) := by decide +kernel
theorem dX8_gives_109 : decode cX8_gives 109 = .ok (.invokevirtual 26, 3) := by decide +kernel
theorem dX8_gives_112 : decode cX8_gives 112 = .ok (.goto 31, 3) := by decide +kernel
theorem dX8_gives_115 : decode cX8_gives 115 = .ok (.aload_n 0, 1) := by decide +kernel
theorem dX8_gives_116 : decode cX8_gives 116 = .ok (.iload 5, 2) := by decide +kernel
theorem dX8_gives_118 : decode cX8_gives 118 = .ok (.ifCond .lt 8, 3) := by decide +kernel
theorem dX8_gives_121 : decode cX8_gives 121 = .ok (.iload 5, 2) := by decide +kernel
theorem dX8_gives_123 : decode cX8_gives 123 = .ok (.goto 17, 3) := by decide +kernel
theorem dX8_gives_126 : decode cX8_gives 126 = .ok (.iload 5, 2) := by decide +kernel
theorem dX8_gives_128 : decode cX8_gives 128 = .ok (.ineg, 1) := by decide +kernel
theorem dX8_gives_129 : decode cX8_gives 129 = .ok (.aload_n 0, 1) := by decide +kernel
theorem dX8_gives_130 : decode cX8_gives 130 = .ok (.invokevirtual 30, 3) := by decide +kernel
theorem dX8_gives_133 : decode cX8_gives 133 = .ok (.aload_n 0, 1) := by decide +kernel
theorem dX8_gives_134 : decode cX8_gives 134 = .ok (.invokevirtual 30, 3) := by decide +kernel
theorem dX8_gives_137 : decode cX8_gives 137 = .ok (.invokestatic 34, 3) := by decide +kernel
theorem dX8_gives_140 : decode cX8_gives 140 = .ok (.invokevirtual 26, 3) := by decide +kernel
theorem dX8_gives_143 : decode cX8_gives 143 = .ok (.iinc 4 1, 3) := by decide +kernel
theorem dX8_gives_146 : decode cX8_gives 146 = .ok (.goto (-138), 3) := by decide +kernel
theorem dX8_gives_149 : decode cX8_gives 149 = .ok (.aload_n 0, 1) := by decide +kernel
theorem dX8_gives_150 : decode cX8_gives 150 = .ok (.invokevirtual 30, 3) := by decide +kernel
theorem dX8_gives_153 : decode cX8_gives 153 = .ok (.ireturn, 1) := by decide +kernel
abbrev x_X8_gives (E : mh_E) (d mc ms : Nat) (Post : Option Value → mh_H → Prop) : mh_X := (E, yX8_gives, cX8_gives, 6, (some .int), d, mc, ms, Post)
def q_X8_gives_143 (X : mh_X) : mh_PR := s_inc 4 (1) (mh_G X 8)
theorem b_X8_gives_143 {E : mh_E} {d mc ms : Nat} {Post : Option Value → mh_H → Prop} : mh_S (x_X8_gives E d mc ms Post) 143 (q_X8_gives_143 (x_X8_gives E d mc ms Post)) := sn_iinc dX8_gives_143 (by decide) (Nat.le_of_ble_eq_true rfl) (sn_goto (tgt := 8) dX8_gives_146 (by decide) (mh_S.G))
def q_X8_gives_140 (X : mh_X) : mh_PR := s_cv X yX8_push 8 1 (q_X8_gives_143 X)
theorem b_X8_gives_140 {E : mh_E} {d mc ms : Nat} {Post : Option Value → mh_H → Prop} : mh_S (x_X8_gives E d mc ms Post) 140 (q_X8_gives_140 (x_X8_gives E d mc ms Post)) := sn_cv w_443 w_445 w_1 w_68 rfl nm_X8_push dX8_gives_140 b_X8_gives_143
def q_X8_gives_109 (X : mh_X) : mh_PR := s_cv X yX8_push 8 1 (q_X8_gives_143 X)
theorem b_X8_gives_109 {E : mh_E} {d mc ms : Nat} {Post : Option Value → mh_H → Prop} : mh_S (x_X8_gives E d mc ms Post) 109 (q_X8_gives_109 (x_X8_gives E d mc ms Post)) := sn_cv w_443 w_445 w_1 w_68 rfl nm_X8_push dX8_gives_109 (sn_goto (tgt := 143) dX8_gives_112 (by decide) (b_X8_gives_143))
def q_X8_gives_8 (X : mh_X) : mh_PR := s_il 4 (s_al 0 (s_gr 8 2 (s_alen (s_if2 (fun x y => y ≤ x) (s_al 0 (s_cv X yX8_pop 8 0 (s_iret X))) (s_al 0 (s_gr 8 2 (s_il 4 (s_ald 0 (s_is 5 (s_il 5 (s_sw [((-33 : Int32), s_al 0 (s_al 0 (s_cv X yX8_pop 8 0 (s_if1 (fun x => ¬ x = 0) (s_push (.int (0)) (q_X8_gives_109 X)) (s_push (.int (1)) (q_X8_gives_109 X)))))), ((-3 : Int32), s_al 0 (s_il 3 (s_cv X yX8_push 8 1 (q_X8_gives_143 X)))), ((-2 : Int32), s_al 0 (s_il 2 (s_cv X yX8_push 8 1 (q_X8_gives_143 X)))), ((-1 : Int32), s_al 0 (s_il 1 (s_cv X yX8_push 8 1 (q_X8_gives_143 X))))] (s_al 0 (s_il 5 (s_if1 (fun x => x < 0) (s_il 5 (s_un (fun x => -x) (s_al 0 (s_cv X yX8_pop 8 0 (s_al 0 (s_cv X yX8_pop 8 0 (s_cs X yX8_join 3 (q_X8_gives_140 X)))))))) (s_il 5 (q_X8_gives_140 X))))))))))))))))
theorem b_X8_gives_8 {E : mh_E} {d mc ms : Nat} {Post : Option Value → mh_H → Prop} : mh_S (x_X8_gives E d mc ms Post) 8 (q_X8_gives_8 (x_X8_gives E d mc ms Post)) := sn_iload dX8_gives_8 (sn_aload_n dX8_gives_10 rfl (sn_getr clX8 (by decide) w_983 dX8_gives_11 (sn_alen dX8_gives_14 (sn_icmp_ge (tgt := 149) dX8_gives_15 (by decide) (sn_aload_n dX8_gives_149 rfl (sn_cv w_448 w_450 w_2 w_68 rfl nm_X8_pop dX8_gives_150 (sn_iret rfl dX8_gives_153))) (sn_aload_n dX8_gives_18 rfl (sn_getr clX8 (by decide) w_983 dX8_gives_19 (sn_iload dX8_gives_22 (sn_iaload dX8_gives_24 (sn_istore dX8_gives_25 (Nat.le_of_ble_eq_true rfl) (sn_iload dX8_gives_27 (sn_lookup (tgt := 115) (ts := [(-33, 67, 96), (-3, 59, 88), (-2, 51, 80), (-1, 43, 72)]) dX8_gives_29 (by decide +kernel) (by decide +kernel) (by decide +kernel) (sw_cons (sn_aload_n dX8_gives_96 rfl (sn_aload_n dX8_gives_97 rfl (sn_cv w_448 w_450 w_2 w_68 rfl nm_X8_pop dX8_gives_98 (sn_if_ne (tgt := 108) dX8_gives_101 (by decide) (sn_iconst dX8_gives_108 (by decide) b_X8_gives_109) (sn_iconst dX8_gives_104 (by decide) (sn_goto (tgt := 109) dX8_gives_105 (by decide) (b_X8_gives_109))))))) (sw_cons (sn_aload_n dX8_gives_88 rfl (sn_iload_n dX8_gives_89 rfl (sn_cv w_443 w_445 w_1 w_68 rfl nm_X8_push dX8_gives_90 (sn_goto (tgt := 143) dX8_gives_93 (by decide) (b_X8_gives_143))))) (sw_cons (sn_aload_n dX8_gives_80 rfl (sn_iload_n dX8_gives_81 rfl (sn_cv w_443 w_445 w_1 w_68 rfl nm_X8_push dX8_gives_82 (sn_goto (tgt := 143) dX8_gives_85 (by decide) (b_X8_gives_143))))) (sw_cons (sn_aload_n dX8_gives_72 rfl (sn_iload_n dX8_gives_73 rfl (sn_cv w_443 w_445 w_1 w_68 rfl nm_X8_push dX8_gives_74 (sn_goto (tgt := 143) dX8_gives_77 (by decide) (b_X8_gives_143))))) sw_nil)))) (by decide) (sn_aload_n dX8_gives_115 rfl (sn_iload dX8_gives_116 (sn_if_lt (tgt := 126) dX8_gives_118 (by decide) (sn_iload dX8_gives_126 (sn_ineg dX8_gives_128 (sn_aload_n dX8_gives_129 rfl (sn_cv w_448 w_450 w_2 w_68 rfl nm_X8_pop dX8_gives_130 (sn_aload_n dX8_gives_133 rfl (sn_cv w_448 w_450 w_2 w_68 rfl nm_X8_pop dX8_gives_134 (sn_cs w_452 w_453 w_68 nm_X8_join dX8_gives_137 b_X8_gives_140))))))) (sn_iload dX8_gives_121 (sn_goto (tgt := 140) dX8_gives_123 (by decide) (b_X8_gives_140)))))))))))))))))
def q_X8_gives_0 (X : mh_X) : mh_PR := s_al 0 (s_push (.int (0)) (s_pi 8 4 (s_push (.int (0)) (s_is 4 (mh_G X 8)))))
theorem b_X8_gives_0 {E : mh_E} {d mc ms : Nat} {Post : Option Value → mh_H → Prop} : mh_S (x_X8_gives E d mc ms Post) 0 (q_X8_gives_0 (x_X8_gives E d mc ms Post)) := sn_aload_n dX8_gives_0 rfl (sn_iconst dX8_gives_1 (by decide) (sn_puti clX8 (by decide) w_985 rfl rfl dX8_gives_2 (sn_iconst dX8_gives_5 (by decide) (sn_istore dX8_gives_6 (Nat.le_of_ble_eq_true rfl) mh_S.G))))
theorem m_X8_gives {E : mh_E} {d mc ms : Nat} {args : List Value} {h : mh_H} {Post : Option Value → mh_H → Prop} (lv : List (Option Value)) (hl : lv_args 0 args = mh_al 0 lv) (hs : (lg_sl args).length ≤ 6) (hG : q_X8_gives_0 (x_X8_gives E d mc ms Post) lv [] h 0 0) : mh_M E d mc ms yX8_gives args h Post := mh_M.of w_442 (by decide) (by decide) hl hs (b_X8_gives_0 _ _ _ _ _ hG)
theorem dX8_push_0 : decode cX8_push 0 = .ok (.aload_n 0, 1) := by decide +kernel
theorem dX8_push_1 : decode cX8_push 1 = .ok (.getfield 7, 3) := by decide +kernel
theorem dX8_push_4 : decode cX8_push 4 = .ok (.ifCond .lt 35, 3) := by decide +kernel
theorem dX8_push_7 : decode cX8_push 7 = .ok (.aload_n 0, 1) := by decide +kernel
theorem dX8_push_8 : decode cX8_push 8 = .ok (.getfield 7, 3) := by decide +kernel
theorem dX8_push_11 : decode cX8_push 11 = .ok (.aload_n 0, 1) := by decide +kernel
theorem dX8_push_12 : decode cX8_push 12 = .ok (.getfield 23, 3) := by decide +kernel
theorem dX8_push_15 : decode cX8_push 15 = .ok (.arraylength, 1) := by decide +kernel
theorem dX8_push_16 : decode cX8_push 16 = .ok (.if_icmp .ge 23, 3) := by decide +kernel
theorem dX8_push_19 : decode cX8_push 19 = .ok (.aload_n 0, 1) := by decide +kernel
theorem dX8_push_20 : decode cX8_push 20 = .ok (.getfield 23, 3) := by decide +kernel
theorem dX8_push_23 : decode cX8_push 23 = .ok (.aload_n 0, 1) := by decide +kernel
theorem dX8_push_24 : decode cX8_push 24 = .ok (.getfield 7, 3) := by decide +kernel
theorem dX8_push_27 : decode cX8_push 27 = .ok (.iload_n 1, 1) := by decide +kernel
theorem dX8_push_28 : decode cX8_push 28 = .ok (.iastore, 1) := by decide +kernel
theorem dX8_push_29 : decode cX8_push 29 = .ok (.aload_n 0, 1) := by decide +kernel
theorem dX8_push_30 : decode cX8_push 30 = .ok (.dup, 1) := by decide +kernel
theorem dX8_push_31 : decode cX8_push 31 = .ok (.getfield 7, 3) := by decide +kernel
theorem dX8_push_34 : decode cX8_push 34 = .ok (.iconst 1, 1) := by decide +kernel
theorem dX8_push_35 : decode cX8_push 35 = .ok (.iadd, 1) := by decide +kernel
theorem dX8_push_36 : decode cX8_push 36 = .ok (.putfield 7, 3) := by decide +kernel
theorem dX8_push_39 : decode cX8_push 39 = .ok (.return_, 1) := by decide +kernel
abbrev x_X8_push (E : mh_E) (d mc ms : Nat) (Post : Option Value → mh_H → Prop) : mh_X := (E, yX8_push, cX8_push, 2, none, d, mc, ms, Post)
def q_X8_push_39 (X : mh_X) : mh_PR := s_vret X
theorem b_X8_push_39 {E : mh_E} {d mc ms : Nat} {Post : Option Value → mh_H → Prop} : mh_S (x_X8_push E d mc ms Post) 39 (q_X8_push_39 (x_X8_push E d mc ms Post)) := sn_vret rfl dX8_push_39
def q_X8_push_0 (X : mh_X) : mh_PR := s_al 0 (s_gi 8 4 (s_if1 (fun x => x < 0) (q_X8_push_39 X) (s_al 0 (s_gi 8 4 (s_al 0 (s_gr 8 3 (s_alen (s_if2 (fun x y => y ≤ x) (q_X8_push_39 X) (s_al 0 (s_gr 8 3 (s_al 0 (s_gi 8 4 (s_il 1 (s_ast 0 (fun x => x) (s_al 0 (s_dup (s_gi 8 4 (s_push (.int (1)) (s_bin (fun x y => x + y) (s_pi 8 4 (q_X8_push_39 X)))))))))))))))))))))
theorem b_X8_push_0 {E : mh_E} {d mc ms : Nat} {Post : Option Value → mh_H → Prop} : mh_S (x_X8_push E d mc ms Post) 0 (q_X8_push_0 (x_X8_push E d mc ms Post)) := sn_aload_n dX8_push_0 rfl (sn_geti clX8 (by decide) w_985 dX8_push_1 (sn_if_lt (tgt := 39) dX8_push_4 (by decide) (b_X8_push_39) (sn_aload_n dX8_push_7 rfl (sn_geti clX8 (by decide) w_985 dX8_push_8 (sn_aload_n dX8_push_11 rfl (sn_getr clX8 (by decide) w_984 dX8_push_12 (sn_alen dX8_push_15 (sn_icmp_ge (tgt := 39) dX8_push_16 (by decide) (b_X8_push_39) (sn_aload_n dX8_push_19 rfl (sn_getr clX8 (by decide) w_984 dX8_push_20 (sn_aload_n dX8_push_23 rfl (sn_geti clX8 (by decide) w_985 dX8_push_24 (sn_iload_n dX8_push_27 rfl (sn_iastore dX8_push_28 (sn_aload_n dX8_push_29 rfl (sn_dup dX8_push_30 (sn_geti clX8 (by decide) w_985 dX8_push_31 (sn_iconst dX8_push_34 (by decide) (sn_iadd dX8_push_35 (sn_puti clX8 (by decide) w_985 rfl rfl dX8_push_36 b_X8_push_39))))))))))))))))))))
theorem m_X8_push {E : mh_E} {d mc ms : Nat} {args : List Value} {h : mh_H} {Post : Option Value → mh_H → Prop} (lv : List (Option Value)) (hl : lv_args 0 args = mh_al 0 lv) (hs : (lg_sl args).length ≤ 2) (hG : q_X8_push_0 (x_X8_push E d mc ms Post) lv [] h 0 0) : mh_M E d mc ms yX8_push args h Post := mh_M.of w_447 (by decide) (by decide) hl hs (b_X8_push_0 _ _ _ _ _ hG)
theorem dX8_pop_0 : decode cX8_pop 0 = .ok (.aload_n 0, 1) := by decide +kernel
theorem dX8_pop_1 : decode cX8_pop 1 = .ok (.getfield 7, 3) := by decide +kernel
theorem dX8_pop_4 : decode cX8_pop 4 = .ok (.ifCond .le 15, 3) := by decide +kernel
theorem dX8_pop_7 : decode cX8_pop 7 = .ok (.aload_n 0, 1) := by decide +kernel
theorem dX8_pop_8 : decode cX8_pop 8 = .ok (.getfield 7, 3) := by decide +kernel
theorem dX8_pop_11 : decode cX8_pop 11 = .ok (.aload_n 0, 1) := by decide +kernel
theorem dX8_pop_12 : decode cX8_pop 12 = .ok (.getfield 23, 3) := by decide +kernel
theorem dX8_pop_15 : decode cX8_pop 15 = .ok (.arraylength, 1) := by decide +kernel
theorem dX8_pop_16 : decode cX8_pop 16 = .ok (.if_icmp .le 5, 3) := by decide +kernel
theorem dX8_pop_19 : decode cX8_pop 19 = .ok (.iconst 0, 1) := by decide +kernel
theorem dX8_pop_20 : decode cX8_pop 20 = .ok (.ireturn, 1) := by decide +kernel
theorem dX8_pop_21 : decode cX8_pop 21 = .ok (.aload_n 0, 1) := by decide +kernel
theorem dX8_pop_22 : decode cX8_pop 22 = .ok (.dup, 1) := by decide +kernel
theorem dX8_pop_23 : decode cX8_pop 23 = .ok (.getfield 7, 3) := by decide +kernel
theorem dX8_pop_26 : decode cX8_pop 26 = .ok (.iconst 1, 1) := by decide +kernel
theorem dX8_pop_27 : decode cX8_pop 27 = .ok (.isub, 1) := by decide +kernel
theorem dX8_pop_28 : decode cX8_pop 28 = .ok (.putfield 7, 3) := by decide +kernel
theorem dX8_pop_31 : decode cX8_pop 31 = .ok (.aload_n 0, 1) := by decide +kernel
theorem dX8_pop_32 : decode cX8_pop 32 = .ok (.getfield 23, 3) := by decide +kernel
theorem dX8_pop_35 : decode cX8_pop 35 = .ok (.aload_n 0, 1) := by decide +kernel
theorem dX8_pop_36 : decode cX8_pop 36 = .ok (.getfield 7, 3) := by decide +kernel
theorem dX8_pop_39 : decode cX8_pop 39 = .ok (.iaload, 1) := by decide +kernel
theorem dX8_pop_40 : decode cX8_pop 40 = .ok (.ireturn, 1) := by decide +kernel
abbrev x_X8_pop (E : mh_E) (d mc ms : Nat) (Post : Option Value → mh_H → Prop) : mh_X := (E, yX8_pop, cX8_pop, 1, (some .int), d, mc, ms, Post)
def q_X8_pop_19 (X : mh_X) : mh_PR := s_push (.int (0)) (s_iret X)
theorem b_X8_pop_19 {E : mh_E} {d mc ms : Nat} {Post : Option Value → mh_H → Prop} : mh_S (x_X8_pop E d mc ms Post) 19 (q_X8_pop_19 (x_X8_pop E d mc ms Post)) := sn_iconst dX8_pop_19 (by decide) (sn_iret rfl dX8_pop_20)
def q_X8_pop_0 (X : mh_X) : mh_PR := s_al 0 (s_gi 8 4 (s_if1 (fun x => x ≤ 0) (q_X8_pop_19 X) (s_al 0 (s_gi 8 4 (s_al 0 (s_gr 8 3 (s_alen (s_if2 (fun x y => x ≤ y) (s_al 0 (s_dup (s_gi 8 4 (s_push (.int (1)) (s_bin (fun x y => x - y) (s_pi 8 4 (s_al 0 (s_gr 8 3 (s_al 0 (s_gi 8 4 (s_ald 0 (s_iret X)))))))))))) (q_X8_pop_19 X)))))))))
theorem b_X8_pop_0 {E : mh_E} {d mc ms : Nat} {Post : Option Value → mh_H → Prop} : mh_S (x_X8_pop E d mc ms Post) 0 (q_X8_pop_0 (x_X8_pop E d mc ms Post)) := sn_aload_n dX8_pop_0 rfl (sn_geti clX8 (by decide) w_985 dX8_pop_1 (sn_if_le (tgt := 19) dX8_pop_4 (by decide) (b_X8_pop_19) (sn_aload_n dX8_pop_7 rfl (sn_geti clX8 (by decide) w_985 dX8_pop_8 (sn_aload_n dX8_pop_11 rfl (sn_getr clX8 (by decide) w_984 dX8_pop_12 (sn_alen dX8_pop_15 (sn_icmp_le (tgt := 21) dX8_pop_16 (by decide) (sn_aload_n dX8_pop_21 rfl (sn_dup dX8_pop_22 (sn_geti clX8 (by decide) w_985 dX8_pop_23 (sn_iconst dX8_pop_26 (by decide) (sn_isub dX8_pop_27 (sn_puti clX8 (by decide) w_985 rfl rfl dX8_pop_28 (sn_aload_n dX8_pop_31 rfl (sn_getr clX8 (by decide) w_984 dX8_pop_32 (sn_aload_n dX8_pop_35 rfl (sn_geti clX8 (by decide) w_985 dX8_pop_36 (sn_iaload dX8_pop_39 (sn_iret rfl dX8_pop_40)))))))))))) (b_X8_pop_19)))))))))
theorem m_X8_pop {E : mh_E} {d mc ms : Nat} {args : List Value} {h : mh_H} {Post : Option Value → mh_H → Prop} (lv : List (Option Value)) (hl : lv_args 0 args = mh_al 0 lv) (hs : (lg_sl args).length ≤ 1) (hG : q_X8_pop_0 (x_X8_pop E d mc ms Post) lv [] h 0 0) : mh_M E d mc ms yX8_pop args h Post := mh_M.of w_451 (by decide) (by decide) hl hs (b_X8_pop_0 _ _ _ _ _ hG)
theorem dX8_join_0 : decode cX8_join 0 = .ok (.iload_n 0, 1) := by decide +kernel
theorem dX8_join_1 : decode cX8_join 1 = .ok (.lookupswitch 148 #[(38, 89), (42, 144), (43, 136), (45, 140), (60, 103), (61, 114), (62, 125), (124, 75)], 75) := by decide +kernel
theorem dX8_join_76 : decode cX8_join 76 = .ok (.iload_n 2, 1) := by decide +kernel
theorem dX8_join_77 : decode cX8_join 77 = .ok (.ifCond .ne 7, 3) := by decide +kernel
theorem dX8_join_80 : decode cX8_join 80 = .ok (.iload_n 1, 1) := by decide +kernel
theorem dX8_join_81 : decode cX8_join 81 = .ok (.ifCond .eq 7, 3) := by decide +kernel
theorem dX8_join_84 : decode cX8_join 84 = .ok (.iconst 1, 1) := by decide +kernel
theorem dX8_join_85 : decode cX8_join 85 = .ok (.goto 4, 3) := by decide +kernel
theorem dX8_join_88 : decode cX8_join 88 = .ok (.iconst 0, 1) := by decide +kernel
theorem dX8_join_89 : decode cX8_join 89 = .ok (.ireturn, 1) := by decide +kernel
theorem dX8_join_90 : decode cX8_join 90 = .ok (.iload_n 2, 1) := by decide +kernel
theorem dX8_join_91 : decode cX8_join 91 = .ok (.ifCond .eq 11, 3) := by decide +kernel
theorem dX8_join_94 : decode cX8_join 94 = .ok (.iload_n 1, 1) := by decide +kernel
theorem dX8_join_95 : decode cX8_join 95 = .ok (.ifCond .eq 7, 3) := by decide +kernel
theorem dX8_join_98 : decode cX8_join 98 = .ok (.iconst 1, 1) := by decide +kernel
theorem dX8_join_99 : decode cX8_join 99 = .ok (.goto 4, 3) := by decide +kernel
theorem dX8_join_102 : decode cX8_join 102 = .ok (.iconst 0, 1) := by decide +kernel
theorem dX8_join_103 : decode cX8_join 103 = .ok (.ireturn, 1) := by decide +kernel
theorem dX8_join_104 : decode cX8_join 104 = .ok (.iload_n 2, 1) := by decide +kernel
theorem dX8_join_105 : decode cX8_join 105 = .ok (.iload_n 1, 1) := by decide +kernel
theorem dX8_join_106 : decode cX8_join 106 = .ok (.if_icmp .ge 7, 3) := by decide +kernel
theorem dX8_join_109 : decode cX8_join 109 = .ok (.iconst 1, 1) := by decide +kernel
theorem dX8_join_110 : decode cX8_join 110 = .ok (.goto 4, 3) := by decide +kernel
theorem dX8_join_113 : decode cX8_join 113 = .ok (.iconst 0, 1) := by decide +kernel
theorem dX8_join_114 : decode cX8_join 114 = .ok (.ireturn, 1) := by decide +kernel
theorem dX8_join_115 : decode cX8_join 115 = .ok (.iload_n 2, 1) := by decide +kernel
theorem dX8_join_116 : decode cX8_join 116 = .ok (.iload_n 1, 1) := by decide +kernel
theorem dX8_join_117 : decode cX8_join 117 = .ok (.if_icmp .ne 7, 3) := by decide +kernel
theorem dX8_join_120 : decode cX8_join 120 = .ok (.iconst 1, 1) := by decide +kernel
theorem dX8_join_121 : decode cX8_join 121 = .ok (.goto 4, 3) := by decide +kernel
theorem dX8_join_124 : decode cX8_join 124 = .ok (.iconst 0, 1) := by decide +kernel
theorem dX8_join_125 : decode cX8_join 125 = .ok (.ireturn, 1) := by decide +kernel
theorem dX8_join_126 : decode cX8_join 126 = .ok (.iload_n 2, 1) := by decide +kernel
theorem dX8_join_127 : decode cX8_join 127 = .ok (.iload_n 1, 1) := by decide +kernel
theorem dX8_join_128 : decode cX8_join 128 = .ok (.if_icmp .le 7, 3) := by decide +kernel
theorem dX8_join_131 : decode cX8_join 131 = .ok (.iconst 1, 1) := by decide +kernel
theorem dX8_join_132 : decode cX8_join 132 = .ok (.goto 4, 3) := by decide +kernel
theorem dX8_join_135 : decode cX8_join 135 = .ok (.iconst 0, 1) := by decide +kernel
theorem dX8_join_136 : decode cX8_join 136 = .ok (.ireturn, 1) := by decide +kernel
theorem dX8_join_137 : decode cX8_join 137 = .ok (.iload_n 2, 1) := by decide +kernel
theorem dX8_join_138 : decode cX8_join 138 = .ok (.iload_n 1, 1) := by decide +kernel
theorem dX8_join_139 : decode cX8_join 139 = .ok (.iadd, 1) := by decide +kernel
theorem dX8_join_140 : decode cX8_join 140 = .ok (.ireturn, 1) := by decide +kernel
theorem dX8_join_141 : decode cX8_join 141 = .ok (.iload_n 2, 1) := by decide +kernel
theorem dX8_join_142 : decode cX8_join 142 = .ok (.iload_n 1, 1) := by decide +kernel
theorem dX8_join_143 : decode cX8_join 143 = .ok (.isub, 1) := by decide +kernel
theorem dX8_join_144 : decode cX8_join 144 = .ok (.ireturn, 1) := by decide +kernel
theorem dX8_join_145 : decode cX8_join 145 = .ok (.iload_n 2, 1) := by decide +kernel
theorem dX8_join_146 : decode cX8_join 146 = .ok (.iload_n 1, 1) := by decide +kernel
theorem dX8_join_147 : decode cX8_join 147 = .ok (.imul, 1) := by decide +kernel
theorem dX8_join_148 : decode cX8_join 148 = .ok (.ireturn, 1) := by decide +kernel
theorem dX8_join_149 : decode cX8_join 149 = .ok (.iload_n 1, 1) := by decide +kernel
theorem dX8_join_150 : decode cX8_join 150 = .ok (.ifCond .ne 7, 3) := by decide +kernel
theorem dX8_join_153 : decode cX8_join 153 = .ok (.iconst 0, 1) := by decide +kernel
theorem dX8_join_154 : decode cX8_join 154 = .ok (.goto 6, 3) := by decide +kernel
theorem dX8_join_157 : decode cX8_join 157 = .ok (.iload_n 2, 1) := by decide +kernel
theorem dX8_join_158 : decode cX8_join 158 = .ok (.iload_n 1, 1) := by decide +kernel
theorem dX8_join_159 : decode cX8_join 159 = .ok (.idiv, 1) := by decide +kernel
theorem dX8_join_160 : decode cX8_join 160 = .ok (.ireturn, 1) := by decide +kernel
abbrev x_X8_join (E : mh_E) (d mc ms : Nat) (Post : Option Value → mh_H → Prop) : mh_X := (E, yX8_join, cX8_join, 3, (some .int), d, mc, ms, Post)
def q_X8_join_160 (X : mh_X) : mh_PR := s_iret X
theorem b_X8_join_160 {E : mh_E} {d mc ms : Nat} {Post : Option Value → mh_H → Prop} : mh_S (x_X8_join E d mc ms Post) 160 (q_X8_join_160 (x_X8_join E d mc ms Post)) := sn_iret rfl dX8_join_160
def q_X8_join_136 (X : mh_X) : mh_PR := s_iret X
theorem b_X8_join_136 {E : mh_E} {d mc ms : Nat} {Post : Option Value → mh_H → Prop} : mh_S (x_X8_join E d mc ms Post) 136 (q_X8_join_136 (x_X8_join E d mc ms Post)) := sn_iret rfl dX8_join_136
def q_X8_join_125 (X : mh_X) : mh_PR := s_iret X
theorem b_X8_join_125 {E : mh_E} {d mc ms : Nat} {Post : Option Value → mh_H → Prop} : mh_S (x_X8_join E d mc ms Post) 125 (q_X8_join_125 (x_X8_join E d mc ms Post)) := sn_iret rfl dX8_join_125
def q_X8_join_114 (X : mh_X) : mh_PR := s_iret X
theorem b_X8_join_114 {E : mh_E} {d mc ms : Nat} {Post : Option Value → mh_H → Prop} : mh_S (x_X8_join E d mc ms Post) 114 (q_X8_join_114 (x_X8_join E d mc ms Post)) := sn_iret rfl dX8_join_114
def q_X8_join_103 (X : mh_X) : mh_PR := s_iret X
theorem b_X8_join_103 {E : mh_E} {d mc ms : Nat} {Post : Option Value → mh_H → Prop} : mh_S (x_X8_join E d mc ms Post) 103 (q_X8_join_103 (x_X8_join E d mc ms Post)) := sn_iret rfl dX8_join_103
def q_X8_join_102 (X : mh_X) : mh_PR := s_push (.int (0)) (q_X8_join_103 X)
theorem b_X8_join_102 {E : mh_E} {d mc ms : Nat} {Post : Option Value → mh_H → Prop} : mh_S (x_X8_join E d mc ms Post) 102 (q_X8_join_102 (x_X8_join E d mc ms Post)) := sn_iconst dX8_join_102 (by decide) b_X8_join_103
def q_X8_join_89 (X : mh_X) : mh_PR := s_iret X
theorem b_X8_join_89 {E : mh_E} {d mc ms : Nat} {Post : Option Value → mh_H → Prop} : mh_S (x_X8_join E d mc ms Post) 89 (q_X8_join_89 (x_X8_join E d mc ms Post)) := sn_iret rfl dX8_join_89
def q_X8_join_84 (X : mh_X) : mh_PR := s_push (.int (1)) (q_X8_join_89 X)
theorem b_X8_join_84 {E : mh_E} {d mc ms : Nat} {Post : Option Value → mh_H → Prop} : mh_S (x_X8_join E d mc ms Post) 84 (q_X8_join_84 (x_X8_join E d mc ms Post)) := sn_iconst dX8_join_84 (by decide) (sn_goto (tgt := 89) dX8_join_85 (by decide) (b_X8_join_89))
def q_X8_join_0 (X : mh_X) : mh_PR := s_il 0 (s_sw [((38 : Int32), s_il 2 (s_if1 (fun x => x = 0) (q_X8_join_102 X) (s_il 1 (s_if1 (fun x => x = 0) (q_X8_join_102 X) (s_push (.int (1)) (q_X8_join_103 X)))))), ((42 : Int32), s_il 2 (s_il 1 (s_bin (fun x y => x * y) (s_iret X)))), ((43 : Int32), s_il 2 (s_il 1 (s_bin (fun x y => x + y) (s_iret X)))), ((45 : Int32), s_il 2 (s_il 1 (s_bin (fun x y => x - y) (s_iret X)))), ((60 : Int32), s_il 2 (s_il 1 (s_if2 (fun x y => y ≤ x) (s_push (.int (0)) (q_X8_join_114 X)) (s_push (.int (1)) (q_X8_join_114 X))))), ((61 : Int32), s_il 2 (s_il 1 (s_if2 (fun x y => ¬ x = y) (s_push (.int (0)) (q_X8_join_125 X)) (s_push (.int (1)) (q_X8_join_125 X))))), ((62 : Int32), s_il 2 (s_il 1 (s_if2 (fun x y => x ≤ y) (s_push (.int (0)) (q_X8_join_136 X)) (s_push (.int (1)) (q_X8_join_136 X))))), ((124 : Int32), s_il 2 (s_if1 (fun x => ¬ x = 0) (q_X8_join_84 X) (s_il 1 (s_if1 (fun x => x = 0) (s_push (.int (0)) (q_X8_join_89 X)) (q_X8_join_84 X)))))] (s_il 1 (s_if1 (fun x => ¬ x = 0) (s_il 2 (s_il 1 (s_div (fun x y => x / y) (q_X8_join_160 X)))) (s_push (.int (0)) (q_X8_join_160 X)))))
theorem b_X8_join_0 {E : mh_E} {d mc ms : Nat} {Post : Option Value → mh_H → Prop} : mh_S (x_X8_join E d mc ms Post) 0 (q_X8_join_0 (x_X8_join E d mc ms Post)) := sn_iload_n dX8_join_0 rfl (sn_lookup (tgt := 149) (ts := [(38, 89, 90), (42, 144, 145), (43, 136, 137), (45, 140, 141), (60, 103, 104), (61, 114, 115), (62, 125, 126), (124, 75, 76)]) dX8_join_1 (by decide +kernel) (by decide +kernel) (by decide +kernel) (sw_cons (sn_iload_n dX8_join_90 rfl (sn_if_eq (tgt := 102) dX8_join_91 (by decide) (b_X8_join_102) (sn_iload_n dX8_join_94 rfl (sn_if_eq (tgt := 102) dX8_join_95 (by decide) (b_X8_join_102) (sn_iconst dX8_join_98 (by decide) (sn_goto (tgt := 103) dX8_join_99 (by decide) (b_X8_join_103))))))) (sw_cons (sn_iload_n dX8_join_145 rfl (sn_iload_n dX8_join_146 rfl (sn_imul dX8_join_147 (sn_iret rfl dX8_join_148)))) (sw_cons (sn_iload_n dX8_join_137 rfl (sn_iload_n dX8_join_138 rfl (sn_iadd dX8_join_139 (sn_iret rfl dX8_join_140)))) (sw_cons (sn_iload_n dX8_join_141 rfl (sn_iload_n dX8_join_142 rfl (sn_isub dX8_join_143 (sn_iret rfl dX8_join_144)))) (sw_cons (sn_iload_n dX8_join_104 rfl (sn_iload_n dX8_join_105 rfl (sn_icmp_ge (tgt := 113) dX8_join_106 (by decide) (sn_iconst dX8_join_113 (by decide) b_X8_join_114) (sn_iconst dX8_join_109 (by decide) (sn_goto (tgt := 114) dX8_join_110 (by decide) (b_X8_join_114)))))) (sw_cons (sn_iload_n dX8_join_115 rfl (sn_iload_n dX8_join_116 rfl (sn_icmp_ne (tgt := 124) dX8_join_117 (by decide) (sn_iconst dX8_join_124 (by decide) b_X8_join_125) (sn_iconst dX8_join_120 (by decide) (sn_goto (tgt := 125) dX8_join_121 (by decide) (b_X8_join_125)))))) (sw_cons (sn_iload_n dX8_join_126 rfl (sn_iload_n dX8_join_127 rfl (sn_icmp_le (tgt := 135) dX8_join_128 (by decide) (sn_iconst dX8_join_135 (by decide) b_X8_join_136) (sn_iconst dX8_join_131 (by decide) (sn_goto (tgt := 136) dX8_join_132 (by decide) (b_X8_join_136)))))) (sw_cons (sn_iload_n dX8_join_76 rfl (sn_if_ne (tgt := 84) dX8_join_77 (by decide) (b_X8_join_84) (sn_iload_n dX8_join_80 rfl (sn_if_eq (tgt := 88) dX8_join_81 (by decide) (sn_iconst dX8_join_88 (by decide) b_X8_join_89) (b_X8_join_84))))) sw_nil)))))))) (by decide) (sn_iload_n dX8_join_149 rfl (sn_if_ne (tgt := 157) dX8_join_150 (by decide) (sn_iload_n dX8_join_157 rfl (sn_iload_n dX8_join_158 rfl (sn_idiv dX8_join_159 b_X8_join_160))) (sn_iconst dX8_join_153 (by decide) (sn_goto (tgt := 160) dX8_join_154 (by decide) (b_X8_join_160))))))
theorem m_X8_join {E : mh_E} {d mc ms : Nat} {args : List Value} {h : mh_H} {Post : Option Value → mh_H → Prop} (lv : List (Option Value)) (hl : lv_args 0 args = mh_al 0 lv) (hs : (lg_sl args).length ≤ 3) (hG : q_X8_join_0 (x_X8_join E d mc ms Post) lv [] h 0 0) : mh_M E d mc ms yX8_join args h Post := mh_M.of w_454 (by decide) (by decide) hl hs (b_X8_join_0 _ _ _ _ _ hG)
