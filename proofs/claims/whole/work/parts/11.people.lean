theorem dX3_init_0 : decode cX3_init 0 = .ok (.aload_n 0, 1) := by decide +kernel
theorem dX3_init_1 : decode cX3_init 1 = .ok (.invokespecial 3, 3) := by decide +kernel
theorem dX3_init_4 : decode cX3_init 4 = .ok (.aload_n 0, 1) := by decide +kernel
theorem dX3_init_5 : decode cX3_init 5 = .ok (.bipush 6, 2) := by decide +kernel
theorem dX3_init_7 : decode cX3_init 7 = .ok (.newarray .int, 2) := by decide +kernel
theorem dX3_init_9 : decode cX3_init 9 = .ok (.putfield 9, 3) := by decide +kernel
theorem dX3_init_12 : decode cX3_init 12 = .ok (.aload_n 0, 1) := by decide +kernel
theorem dX3_init_13 : decode cX3_init 13 = .ok (.bipush 6, 2) := by decide +kernel
theorem dX3_init_15 : decode cX3_init 15 = .ok (.newarray .int, 2) := by decide +kernel
theorem dX3_init_17 : decode cX3_init 17 = .ok (.putfield 15, 3) := by decide +kernel
theorem dX3_init_20 : decode cX3_init 20 = .ok (.aload_n 0, 1) := by decide +kernel
theorem dX3_init_21 : decode cX3_init 21 = .ok (.iconst 4, 1) := by decide +kernel
theorem dX3_init_22 : decode cX3_init 22 = .ok (.newarray .int, 2) := by decide +kernel
theorem dX3_init_24 : decode cX3_init 24 = .ok (.putfield 18, 3) := by decide +kernel
theorem dX3_init_27 : decode cX3_init 27 = .ok (.aload_n 0, 1) := by decide +kernel
theorem dX3_init_28 : decode cX3_init 28 = .ok (.bipush 10, 2) := by decide +kernel
theorem dX3_init_30 : decode cX3_init 30 = .ok (.newarray .int, 2) := by decide +kernel
theorem dX3_init_32 : decode cX3_init 32 = .ok (.putfield 21, 3) := by decide +kernel
theorem dX3_init_35 : decode cX3_init 35 = .ok (.aload_n 0, 1) := by decide +kernel
theorem dX3_init_36 : decode cX3_init 36 = .ok (.getfield 18, 3) := by decide +kernel
theorem dX3_init_39 : decode cX3_init 39 = .ok (.iconst 0, 1) := by decide +kernel
theorem dX3_init_40 : decode cX3_init 40 = .ok (.bipush 63, 2) := by decide +kernel
theorem dX3_init_42 : decode cX3_init 42 = .ok (.iastore, 1) := by decide +kernel
theorem dX3_init_43 : decode cX3_init 43 = .ok (.aload_n 0, 1) := by decide +kernel
theorem dX3_init_44 : decode cX3_init 44 = .ok (.getfield 21, 3) := by decide +kernel
theorem dX3_init_47 : decode cX3_init 47 = .ok (.iconst 0, 1) := by decide +kernel
theorem dX3_init_48 : decode cX3_init 48 = .ok (.bipush 63, 2) := by decide +kernel
theorem dX3_init_50 : decode cX3_init 50 = .ok (.iastore, 1) := by decide +kernel
theorem dX3_init_51 : decode cX3_init 51 = .ok (.return_, 1) := by decide +kernel
abbrev x_X3_init (E : mh_E) (d mc ms : Nat) (Post : Option Value → mh_H → Prop) : mh_X := (E, yX3_init, cX3_init, 1, none, d, mc, ms, Post)
def q_X3_init_0 (X : mh_X) : mh_PR := s_al 0 (s_oi X (s_al 0 (s_push (.int (6)) (s_newa X 0 (s_pr 3 0 (s_al 0 (s_push (.int (6)) (s_newa X 0 (s_pr 3 1 (s_al 0 (s_push (.int (4)) (s_newa X 0 (s_pr 3 2 (s_al 0 (s_push (.int (10)) (s_newa X 0 (s_pr 3 3 (s_al 0 (s_gr 3 2 (s_push (.int (0)) (s_push (.int (63)) (s_ast 0 (fun x => x) (s_al 0 (s_gr 3 3 (s_push (.int (0)) (s_push (.int (63)) (s_ast 0 (fun x => x) (s_vret X))))))))))))))))))))))))))))
theorem b_X3_init_0 {E : mh_E} {d mc ms : Nat} {Post : Option Value → mh_H → Prop} : mh_S (x_X3_init E d mc ms Post) 0 (q_X3_init_0 (x_X3_init E d mc ms Post)) := sn_aload_n dX3_init_0 rfl (sn_oi w_95 w_82 w_oi dX3_init_1 (sn_aload_n dX3_init_4 rfl (sn_bipush dX3_init_5 (by decide) (sn_newint w_109 dX3_init_7 (sn_putrF clX3 (by decide) w_96 rfl rfl rfl (Or.inr ⟨_, rfl⟩) dX3_init_9 (sn_aload_n dX3_init_12 rfl (sn_bipush dX3_init_13 (by decide) (sn_newint w_109 dX3_init_15 (sn_putrF clX3 (by decide) w_97 rfl rfl rfl (Or.inr ⟨_, rfl⟩) dX3_init_17 (sn_aload_n dX3_init_20 rfl (sn_iconst dX3_init_21 (by decide) (sn_newint w_109 dX3_init_22 (sn_putrF clX3 (by decide) w_98 rfl rfl rfl (Or.inr ⟨_, rfl⟩) dX3_init_24 (sn_aload_n dX3_init_27 rfl (sn_bipush dX3_init_28 (by decide) (sn_newint w_109 dX3_init_30 (sn_putrF clX3 (by decide) w_99 rfl rfl rfl (Or.inr ⟨_, rfl⟩) dX3_init_32 (sn_aload_n dX3_init_35 rfl (sn_getr clX3 (by decide) w_98 dX3_init_36 (sn_iconst dX3_init_39 (by decide) (sn_bipush dX3_init_40 (by decide) (sn_iastore dX3_init_42 (sn_aload_n dX3_init_43 rfl (sn_getr clX3 (by decide) w_99 dX3_init_44 (sn_iconst dX3_init_47 (by decide) (sn_bipush dX3_init_48 (by decide) (sn_iastore dX3_init_50 (sn_vret rfl dX3_init_51))))))))))))))))))))))))))))
theorem m_X3_init {E : mh_E} {d mc ms : Nat} {args : List Value} {h : mh_H} {Post : Option Value → mh_H → Prop} (lv : List (Option Value)) (hl : lv_args 0 args = mh_al 0 lv) (hs : (lg_sl args).length ≤ 1) (hG : q_X3_init_0 (x_X3_init E d mc ms Post) lv [] h 0 0) : mh_M E d mc ms yX3_init args h Post := mh_M.of w_94 (by decide) (by decide) hl hs (b_X3_init_0 _ _ _ _ _ hG)
theorem dX3_become_0 : decode cX3_become 0 = .ok (.aload_n 1, 1) := by decide +kernel
theorem dX3_become_1 : decode cX3_become 1 = .ok (.getfield 9, 3) := by decide +kernel
theorem dX3_become_4 : decode cX3_become 4 = .ok (.iconst 0, 1) := by decide +kernel
theorem dX3_become_5 : decode cX3_become 5 = .ok (.aload_n 0, 1) := by decide +kernel
theorem dX3_become_6 : decode cX3_become 6 = .ok (.getfield 9, 3) := by decide +kernel
theorem dX3_become_9 : decode cX3_become 9 = .ok (.iconst 0, 1) := by decide +kernel
theorem dX3_become_10 : decode cX3_become 10 = .ok (.bipush 6, 2) := by decide +kernel
theorem dX3_become_12 : decode cX3_become 12 = .ok (.invokestatic 24, 3) := by decide +kernel
theorem dX3_become_15 : decode cX3_become 15 = .ok (.aload_n 1, 1) := by decide +kernel
theorem dX3_become_16 : decode cX3_become 16 = .ok (.getfield 15, 3) := by decide +kernel
theorem dX3_become_19 : decode cX3_become 19 = .ok (.iconst 0, 1) := by decide +kernel
theorem dX3_become_20 : decode cX3_become 20 = .ok (.aload_n 0, 1) := by decide +kernel
theorem dX3_become_21 : decode cX3_become 21 = .ok (.getfield 15, 3) := by decide +kernel
theorem dX3_become_24 : decode cX3_become 24 = .ok (.iconst 0, 1) := by decide +kernel
theorem dX3_become_25 : decode cX3_become 25 = .ok (.bipush 6, 2) := by decide +kernel
theorem dX3_become_27 : decode cX3_become 27 = .ok (.invokestatic 24, 3) := by decide +kernel
theorem dX3_become_30 : decode cX3_become 30 = .ok (.aload_n 1, 1) := by decide +kernel
theorem dX3_become_31 : decode cX3_become 31 = .ok (.getfield 18, 3) := by decide +kernel
theorem dX3_become_34 : decode cX3_become 34 = .ok (.iconst 0, 1) := by decide +kernel
theorem dX3_become_35 : decode cX3_become 35 = .ok (.aload_n 0, 1) := by decide +kernel
theorem dX3_become_36 : decode cX3_become 36 = .ok (.getfield 18, 3) := by decide +kernel
theorem dX3_become_39 : decode cX3_become 39 = .ok (.iconst 0, 1) := by decide +kernel
theorem dX3_become_40 : decode cX3_become 40 = .ok (.iconst 4, 1) := by decide +kernel
theorem dX3_become_41 : decode cX3_become 41 = .ok (.invokestatic 24, 3) := by decide +kernel
theorem dX3_become_44 : decode cX3_become 44 = .ok (.aload_n 1, 1) := by decide +kernel
theorem dX3_become_45 : decode cX3_become 45 = .ok (.getfield 21, 3) := by decide +kernel
theorem dX3_become_48 : decode cX3_become 48 = .ok (.iconst 0, 1) := by decide +kernel
theorem dX3_become_49 : decode cX3_become 49 = .ok (.aload_n 0, 1) := by decide +kernel
theorem dX3_become_50 : decode cX3_become 50 = .ok (.getfield 21, 3) := by decide +kernel
theorem dX3_become_53 : decode cX3_become 53 = .ok (.iconst 0, 1) := by decide +kernel
theorem dX3_become_54 : decode cX3_become 54 = .ok (.bipush 10, 2) := by decide +kernel
theorem dX3_become_56 : decode cX3_become 56 = .ok (.invokestatic 24, 3) := by decide +kernel
theorem dX3_become_59 : decode cX3_become 59 = .ok (.return_, 1) := by decide +kernel
abbrev x_X3_become (E : mh_E) (d mc ms : Nat) (Post : Option Value → mh_H → Prop) : mh_X := (E, yX3_become, cX3_become, 2, none, d, mc, ms, Post)
def q_X3_become_0 (X : mh_X) : mh_PR := s_al 1 (s_gr 3 0 (s_push (.int (0)) (s_al 0 (s_gr 3 0 (s_push (.int (0)) (s_push (.int (6)) (s_ac X (s_al 1 (s_gr 3 1 (s_push (.int (0)) (s_al 0 (s_gr 3 1 (s_push (.int (0)) (s_push (.int (6)) (s_ac X (s_al 1 (s_gr 3 2 (s_push (.int (0)) (s_al 0 (s_gr 3 2 (s_push (.int (0)) (s_push (.int (4)) (s_ac X (s_al 1 (s_gr 3 3 (s_push (.int (0)) (s_al 0 (s_gr 3 3 (s_push (.int (0)) (s_push (.int (10)) (s_ac X (s_vret X))))))))))))))))))))))))))))))))
theorem b_X3_become_0 {E : mh_E} {d mc ms : Nat} {Post : Option Value → mh_H → Prop} : mh_S (x_X3_become E d mc ms Post) 0 (q_X3_become_0 (x_X3_become E d mc ms Post)) := sn_aload_n dX3_become_0 rfl (sn_getr clX3 (by decide) w_96 dX3_become_1 (sn_iconst dX3_become_4 (by decide) (sn_aload_n dX3_become_5 rfl (sn_getr clX3 (by decide) w_96 dX3_become_6 (sn_iconst dX3_become_9 (by decide) (sn_bipush dX3_become_10 (by decide) (sn_ac w_666 w_acN w_acS w_70 dX3_become_12 (sn_aload_n dX3_become_15 rfl (sn_getr clX3 (by decide) w_97 dX3_become_16 (sn_iconst dX3_become_19 (by decide) (sn_aload_n dX3_become_20 rfl (sn_getr clX3 (by decide) w_97 dX3_become_21 (sn_iconst dX3_become_24 (by decide) (sn_bipush dX3_become_25 (by decide) (sn_ac w_666 w_acN w_acS w_70 dX3_become_27 (sn_aload_n dX3_become_30 rfl (sn_getr clX3 (by decide) w_98 dX3_become_31 (sn_iconst dX3_become_34 (by decide) (sn_aload_n dX3_become_35 rfl (sn_getr clX3 (by decide) w_98 dX3_become_36 (sn_iconst dX3_become_39 (by decide) (sn_iconst dX3_become_40 (by decide) (sn_ac w_666 w_acN w_acS w_70 dX3_become_41 (sn_aload_n dX3_become_44 rfl (sn_getr clX3 (by decide) w_99 dX3_become_45 (sn_iconst dX3_become_48 (by decide) (sn_aload_n dX3_become_49 rfl (sn_getr clX3 (by decide) w_99 dX3_become_50 (sn_iconst dX3_become_53 (by decide) (sn_bipush dX3_become_54 (by decide) (sn_ac w_666 w_acN w_acS w_70 dX3_become_56 (sn_vret rfl dX3_become_59))))))))))))))))))))))))))))))))
theorem m_X3_become {E : mh_E} {d mc ms : Nat} {args : List Value} {h : mh_H} {Post : Option Value → mh_H → Prop} (lv : List (Option Value)) (hl : lv_args 0 args = mh_al 0 lv) (hs : (lg_sl args).length ≤ 2) (hG : q_X3_become_0 (x_X3_become E d mc ms Post) lv [] h 0 0) : mh_M E d mc ms yX3_become args h Post := mh_M.of w_665 (by decide) (by decide) hl hs (b_X3_become_0 _ _ _ _ _ hG)
theorem dX3_squareOf_0 : decode cX3_squareOf 0 = .ok (.iload_n 1, 1) := by decide +kernel
theorem dX3_squareOf_1 : decode cX3_squareOf 1 = .ok (.invokestatic 30, 3) := by decide +kernel
theorem dX3_squareOf_4 : decode cX3_squareOf 4 = .ok (.ifCond .eq 12, 3) := by decide +kernel
theorem dX3_squareOf_7 : decode cX3_squareOf 7 = .ok (.aload_n 0, 1) := by decide +kernel
theorem dX3_squareOf_8 : decode cX3_squareOf 8 = .ok (.getfield 9, 3) := by decide +kernel
theorem dX3_squareOf_11 : decode cX3_squareOf 11 = .ok (.iload_n 1, 1) := by decide +kernel
theorem dX3_squareOf_12 : decode cX3_squareOf 12 = .ok (.iaload, 1) := by decide +kernel
theorem dX3_squareOf_13 : decode cX3_squareOf 13 = .ok (.goto 4, 3) := by decide +kernel
theorem dX3_squareOf_16 : decode cX3_squareOf 16 = .ok (.iconst 0, 1) := by decide +kernel
theorem dX3_squareOf_17 : decode cX3_squareOf 17 = .ok (.ireturn, 1) := by decide +kernel
abbrev x_X3_squareOf (E : mh_E) (d mc ms : Nat) (Post : Option Value → mh_H → Prop) : mh_X := (E, yX3_squareOf, cX3_squareOf, 2, (some .int), d, mc, ms, Post)
def q_X3_squareOf_17 (X : mh_X) : mh_PR := s_iret X
theorem b_X3_squareOf_17 {E : mh_E} {d mc ms : Nat} {Post : Option Value → mh_H → Prop} : mh_S (x_X3_squareOf E d mc ms Post) 17 (q_X3_squareOf_17 (x_X3_squareOf E d mc ms Post)) := sn_iret rfl dX3_squareOf_17
def q_X3_squareOf_0 (X : mh_X) : mh_PR := s_il 1 (s_cs X yX9_isOne 1 (s_if1 (fun x => x = 0) (s_push (.int (0)) (q_X3_squareOf_17 X)) (s_al 0 (s_gr 3 0 (s_il 1 (s_ald 0 (q_X3_squareOf_17 X)))))))
theorem b_X3_squareOf_0 {E : mh_E} {d mc ms : Nat} {Post : Option Value → mh_H → Prop} : mh_S (x_X3_squareOf E d mc ms Post) 0 (q_X3_squareOf_0 (x_X3_squareOf E d mc ms Post)) := sn_iload_n dX3_squareOf_0 rfl (sn_csN w_520 w_376 w_56 nm_X9_isOne dX3_squareOf_1 (sn_if_eq (tgt := 16) dX3_squareOf_4 (by decide) (sn_iconst dX3_squareOf_16 (by decide) b_X3_squareOf_17) (sn_aload_n dX3_squareOf_7 rfl (sn_getr clX3 (by decide) w_96 dX3_squareOf_8 (sn_iload_n dX3_squareOf_11 rfl (sn_iaload dX3_squareOf_12 (sn_goto (tgt := 17) dX3_squareOf_13 (by decide) (b_X3_squareOf_17))))))))
theorem m_X3_squareOf {E : mh_E} {d mc ms : Nat} {args : List Value} {h : mh_H} {Post : Option Value → mh_H → Prop} (lv : List (Option Value)) (hl : lv_args 0 args = mh_al 0 lv) (hs : (lg_sl args).length ≤ 2) (hG : q_X3_squareOf_0 (x_X3_squareOf E d mc ms Post) lv [] h 0 0) : mh_M E d mc ms yX3_squareOf args h Post := mh_M.of w_519 (by decide) (by decide) hl hs (b_X3_squareOf_0 _ _ _ _ _ hG)
theorem dX3_rankOf_0 : decode cX3_rankOf 0 = .ok (.iload_n 1, 1) := by decide +kernel
theorem dX3_rankOf_1 : decode cX3_rankOf 1 = .ok (.invokestatic 30, 3) := by decide +kernel
theorem dX3_rankOf_4 : decode cX3_rankOf 4 = .ok (.ifCond .eq 12, 3) := by decide +kernel
theorem dX3_rankOf_7 : decode cX3_rankOf 7 = .ok (.aload_n 0, 1) := by decide +kernel
theorem dX3_rankOf_8 : decode cX3_rankOf 8 = .ok (.getfield 15, 3) := by decide +kernel
theorem dX3_rankOf_11 : decode cX3_rankOf 11 = .ok (.iload_n 1, 1) := by decide +kernel
theorem dX3_rankOf_12 : decode cX3_rankOf 12 = .ok (.iaload, 1) := by decide +kernel
theorem dX3_rankOf_13 : decode cX3_rankOf 13 = .ok (.goto 4, 3) := by decide +kernel
theorem dX3_rankOf_16 : decode cX3_rankOf 16 = .ok (.iconst 0, 1) := by decide +kernel
theorem dX3_rankOf_17 : decode cX3_rankOf 17 = .ok (.ireturn, 1) := by decide +kernel
abbrev x_X3_rankOf (E : mh_E) (d mc ms : Nat) (Post : Option Value → mh_H → Prop) : mh_X := (E, yX3_rankOf, cX3_rankOf, 2, (some .int), d, mc, ms, Post)
def q_X3_rankOf_17 (X : mh_X) : mh_PR := s_iret X
theorem b_X3_rankOf_17 {E : mh_E} {d mc ms : Nat} {Post : Option Value → mh_H → Prop} : mh_S (x_X3_rankOf E d mc ms Post) 17 (q_X3_rankOf_17 (x_X3_rankOf E d mc ms Post)) := sn_iret rfl dX3_rankOf_17
def q_X3_rankOf_0 (X : mh_X) : mh_PR := s_il 1 (s_cs X yX9_isOne 1 (s_if1 (fun x => x = 0) (s_push (.int (0)) (q_X3_rankOf_17 X)) (s_al 0 (s_gr 3 1 (s_il 1 (s_ald 0 (q_X3_rankOf_17 X)))))))
theorem b_X3_rankOf_0 {E : mh_E} {d mc ms : Nat} {Post : Option Value → mh_H → Prop} : mh_S (x_X3_rankOf E d mc ms Post) 0 (q_X3_rankOf_0 (x_X3_rankOf E d mc ms Post)) := sn_iload_n dX3_rankOf_0 rfl (sn_csN w_520 w_376 w_56 nm_X9_isOne dX3_rankOf_1 (sn_if_eq (tgt := 16) dX3_rankOf_4 (by decide) (sn_iconst dX3_rankOf_16 (by decide) b_X3_rankOf_17) (sn_aload_n dX3_rankOf_7 rfl (sn_getr clX3 (by decide) w_97 dX3_rankOf_8 (sn_iload_n dX3_rankOf_11 rfl (sn_iaload dX3_rankOf_12 (sn_goto (tgt := 17) dX3_rankOf_13 (by decide) (b_X3_rankOf_17))))))))
theorem m_X3_rankOf {E : mh_E} {d mc ms : Nat} {args : List Value} {h : mh_H} {Post : Option Value → mh_H → Prop} (lv : List (Option Value)) (hl : lv_args 0 args = mh_al 0 lv) (hs : (lg_sl args).length ≤ 2) (hG : q_X3_rankOf_0 (x_X3_rankOf E d mc ms Post) lv [] h 0 0) : mh_M E d mc ms yX3_rankOf args h Post := mh_M.of w_524 (by decide) (by decide) hl hs (b_X3_rankOf_0 _ _ _ _ _ hG)
theorem dX3_crowdAt_0 : decode cX3_crowdAt 0 = .ok (.iload_n 1, 1) := by decide +kernel
theorem dX3_crowdAt_1 : decode cX3_crowdAt 1 = .ok (.invokestatic 34, 3) := by decide +kernel
theorem dX3_crowdAt_4 : decode cX3_crowdAt 4 = .ok (.ifCond .eq 12, 3) := by decide +kernel
theorem dX3_crowdAt_7 : decode cX3_crowdAt 7 = .ok (.aload_n 0, 1) := by decide +kernel
theorem dX3_crowdAt_8 : decode cX3_crowdAt 8 = .ok (.getfield 18, 3) := by decide +kernel
theorem dX3_crowdAt_11 : decode cX3_crowdAt 11 = .ok (.iload_n 1, 1) := by decide +kernel
theorem dX3_crowdAt_12 : decode cX3_crowdAt 12 = .ok (.iaload, 1) := by decide +kernel
theorem dX3_crowdAt_13 : decode cX3_crowdAt 13 = .ok (.goto 4, 3) := by decide +kernel
theorem dX3_crowdAt_16 : decode cX3_crowdAt 16 = .ok (.iconst 0, 1) := by decide +kernel
theorem dX3_crowdAt_17 : decode cX3_crowdAt 17 = .ok (.ireturn, 1) := by decide +kernel
abbrev x_X3_crowdAt (E : mh_E) (d mc ms : Nat) (Post : Option Value → mh_H → Prop) : mh_X := (E, yX3_crowdAt, cX3_crowdAt, 2, (some .int), d, mc, ms, Post)
def q_X3_crowdAt_17 (X : mh_X) : mh_PR := s_iret X
theorem b_X3_crowdAt_17 {E : mh_E} {d mc ms : Nat} {Post : Option Value → mh_H → Prop} : mh_S (x_X3_crowdAt E d mc ms Post) 17 (q_X3_crowdAt_17 (x_X3_crowdAt E d mc ms Post)) := sn_iret rfl dX3_crowdAt_17
def q_X3_crowdAt_0 (X : mh_X) : mh_PR := s_il 1 (s_cs X yX9_isSquare 1 (s_if1 (fun x => x = 0) (s_push (.int (0)) (q_X3_crowdAt_17 X)) (s_al 0 (s_gr 3 2 (s_il 1 (s_ald 0 (q_X3_crowdAt_17 X)))))))
theorem b_X3_crowdAt_0 {E : mh_E} {d mc ms : Nat} {Post : Option Value → mh_H → Prop} : mh_S (x_X3_crowdAt E d mc ms Post) 0 (q_X3_crowdAt_0 (x_X3_crowdAt E d mc ms Post)) := sn_iload_n dX3_crowdAt_0 rfl (sn_csN w_410 w_379 w_56 nm_X9_isSquare dX3_crowdAt_1 (sn_if_eq (tgt := 16) dX3_crowdAt_4 (by decide) (sn_iconst dX3_crowdAt_16 (by decide) b_X3_crowdAt_17) (sn_aload_n dX3_crowdAt_7 rfl (sn_getr clX3 (by decide) w_98 dX3_crowdAt_8 (sn_iload_n dX3_crowdAt_11 rfl (sn_iaload dX3_crowdAt_12 (sn_goto (tgt := 17) dX3_crowdAt_13 (by decide) (b_X3_crowdAt_17))))))))
theorem m_X3_crowdAt {E : mh_E} {d mc ms : Nat} {args : List Value} {h : mh_H} {Post : Option Value → mh_H → Prop} (lv : List (Option Value)) (hl : lv_args 0 args = mh_al 0 lv) (hs : (lg_sl args).length ≤ 2) (hG : q_X3_crowdAt_0 (x_X3_crowdAt E d mc ms Post) lv [] h 0 0) : mh_M E d mc ms yX3_crowdAt args h Post := mh_M.of w_409 (by decide) (by decide) hl hs (b_X3_crowdAt_0 _ _ _ _ _ hG)
theorem dX3_ableTo_0 : decode cX3_ableTo 0 = .ok (.iload_n 1, 1) := by decide +kernel
theorem dX3_ableTo_1 : decode cX3_ableTo 1 = .ok (.invokestatic 37, 3) := by decide +kernel
theorem dX3_ableTo_4 : decode cX3_ableTo 4 = .ok (.ifCond .eq 12, 3) := by decide +kernel
theorem dX3_ableTo_7 : decode cX3_ableTo 7 = .ok (.aload_n 0, 1) := by decide +kernel
theorem dX3_ableTo_8 : decode cX3_ableTo 8 = .ok (.getfield 21, 3) := by decide +kernel
theorem dX3_ableTo_11 : decode cX3_ableTo 11 = .ok (.iload_n 1, 1) := by decide +kernel
theorem dX3_ableTo_12 : decode cX3_ableTo 12 = .ok (.iaload, 1) := by decide +kernel
theorem dX3_ableTo_13 : decode cX3_ableTo 13 = .ok (.goto 4, 3) := by decide +kernel
theorem dX3_ableTo_16 : decode cX3_ableTo 16 = .ok (.iconst 0, 1) := by decide +kernel
theorem dX3_ableTo_17 : decode cX3_ableTo 17 = .ok (.ireturn, 1) := by decide +kernel
abbrev x_X3_ableTo (E : mh_E) (d mc ms : Nat) (Post : Option Value → mh_H → Prop) : mh_X := (E, yX3_ableTo, cX3_ableTo, 2, (some .int), d, mc, ms, Post)
def q_X3_ableTo_17 (X : mh_X) : mh_PR := s_iret X
theorem b_X3_ableTo_17 {E : mh_E} {d mc ms : Nat} {Post : Option Value → mh_H → Prop} : mh_S (x_X3_ableTo E d mc ms Post) 17 (q_X3_ableTo_17 (x_X3_ableTo E d mc ms Post)) := sn_iret rfl dX3_ableTo_17
def q_X3_ableTo_0 (X : mh_X) : mh_PR := s_il 1 (s_cs X yX9_isRank 1 (s_if1 (fun x => x = 0) (s_push (.int (0)) (q_X3_ableTo_17 X)) (s_al 0 (s_gr 3 3 (s_il 1 (s_ald 0 (q_X3_ableTo_17 X)))))))
theorem b_X3_ableTo_0 {E : mh_E} {d mc ms : Nat} {Post : Option Value → mh_H → Prop} : mh_S (x_X3_ableTo E d mc ms Post) 0 (q_X3_ableTo_0 (x_X3_ableTo E d mc ms Post)) := sn_iload_n dX3_ableTo_0 rfl (sn_csN w_415 w_382 w_56 nm_X9_isRank dX3_ableTo_1 (sn_if_eq (tgt := 16) dX3_ableTo_4 (by decide) (sn_iconst dX3_ableTo_16 (by decide) b_X3_ableTo_17) (sn_aload_n dX3_ableTo_7 rfl (sn_getr clX3 (by decide) w_99 dX3_ableTo_8 (sn_iload_n dX3_ableTo_11 rfl (sn_iaload dX3_ableTo_12 (sn_goto (tgt := 17) dX3_ableTo_13 (by decide) (b_X3_ableTo_17))))))))
theorem m_X3_ableTo {E : mh_E} {d mc ms : Nat} {args : List Value} {h : mh_H} {Post : Option Value → mh_H → Prop} (lv : List (Option Value)) (hl : lv_args 0 args = mh_al 0 lv) (hs : (lg_sl args).length ≤ 2) (hG : q_X3_ableTo_0 (x_X3_ableTo E d mc ms Post) lv [] h 0 0) : mh_M E d mc ms yX3_ableTo args h Post := mh_M.of w_414 (by decide) (by decide) hl hs (b_X3_ableTo_0 _ _ _ _ _ hG)
theorem dX3_move_0 : decode cX3_move 0 = .ok (.iload_n 1, 1) := by decide +kernel
theorem dX3_move_1 : decode cX3_move 1 = .ok (.invokestatic 30, 3) := by decide +kernel
theorem dX3_move_4 : decode cX3_move 4 = .ok (.ifCond .eq 60, 3) := by decide +kernel
theorem dX3_move_7 : decode cX3_move 7 = .ok (.iload_n 2, 1) := by decide +kernel
theorem dX3_move_8 : decode cX3_move 8 = .ok (.invokestatic 34, 3) := by decide +kernel
theorem dX3_move_11 : decode cX3_move 11 = .ok (.ifCond .eq 53, 3) := by decide +kernel
theorem dX3_move_14 : decode cX3_move 14 = .ok (.aload_n 0, 1) := by decide +kernel
theorem dX3_move_15 : decode cX3_move 15 = .ok (.getfield 9, 3) := by decide +kernel
theorem dX3_move_18 : decode cX3_move 18 = .ok (.iload_n 1, 1) := by decide +kernel
theorem dX3_move_19 : decode cX3_move 19 = .ok (.iaload, 1) := by decide +kernel
theorem dX3_move_20 : decode cX3_move 20 = .ok (.invokestatic 34, 3) := by decide +kernel
theorem dX3_move_23 : decode cX3_move 23 = .ok (.ifCond .eq 41, 3) := by decide +kernel
theorem dX3_move_26 : decode cX3_move 26 = .ok (.aload_n 0, 1) := by decide +kernel
theorem dX3_move_27 : decode cX3_move 27 = .ok (.getfield 18, 3) := by decide +kernel
theorem dX3_move_30 : decode cX3_move 30 = .ok (.aload_n 0, 1) := by decide +kernel
theorem dX3_move_31 : decode cX3_move 31 = .ok (.getfield 9, 3) := by decide +kernel
theorem dX3_move_34 : decode cX3_move 34 = .ok (.iload_n 1, 1) := by decide +kernel
theorem dX3_move_35 : decode cX3_move 35 = .ok (.iaload, 1) := by decide +kernel
theorem dX3_move_36 : decode cX3_move 36 = .ok (.dup2, 1) := by decide +kernel
theorem dX3_move_37 : decode cX3_move 37 = .ok (.iaload, 1) := by decide +kernel
theorem dX3_move_38 : decode cX3_move 38 = .ok (.iconst 1, 1) := by decide +kernel
theorem dX3_move_39 : decode cX3_move 39 = .ok (.iload_n 1, 1) := by decide +kernel
theorem dX3_move_40 : decode cX3_move 40 = .ok (.ishl, 1) := by decide +kernel
theorem dX3_move_41 : decode cX3_move 41 = .ok (.iconst (-1), 1) := by decide +kernel
theorem dX3_move_42 : decode cX3_move 42 = .ok (.ixor, 1) := by decide +kernel
theorem dX3_move_43 : decode cX3_move 43 = .ok (.iand, 1) := by decide +kernel
theorem dX3_move_44 : decode cX3_move 44 = .ok (.iastore, 1) := by decide +kernel
theorem dX3_move_45 : decode cX3_move 45 = .ok (.aload_n 0, 1) := by decide +kernel
theorem dX3_move_46 : decode cX3_move 46 = .ok (.getfield 18, 3) := by decide +kernel
theorem dX3_move_49 : decode cX3_move 49 = .ok (.iload_n 2, 1) := by decide +kernel
theorem dX3_move_50 : decode cX3_move 50 = .ok (.dup2, 1) := by decide +kernel
theorem dX3_move_51 : decode cX3_move 51 = .ok (.iaload, 1) := by decide +kernel
theorem dX3_move_52 : decode cX3_move 52 = .ok (.iconst 1, 1) := by decide +kernel
theorem dX3_move_53 : decode cX3_move 53 = .ok (.iload_n 1, 1) := by decide +kernel
theorem dX3_move_54 : decode cX3_move 54 = .ok (.ishl, 1) := by decide +kernel
theorem dX3_move_55 : decode cX3_move 55 = .ok (.ior, 1) := by decide +kernel
theorem dX3_move_56 : decode cX3_move 56 = .ok (.iastore, 1) := by decide +kernel
theorem dX3_move_57 : decode cX3_move 57 = .ok (.aload_n 0, 1) := by decide +kernel
theorem dX3_move_58 : decode cX3_move 58 = .ok (.getfield 9, 3) := by decide +kernel
theorem dX3_move_61 : decode cX3_move 61 = .ok (.iload_n 1, 1) := by decide +kernel
theorem dX3_move_62 : decode cX3_move 62 = .ok (.iload_n 2, 1) := by decide +kernel
theorem dX3_move_63 : decode cX3_move 63 = .ok (.iastore, 1) := by decide +kernel
theorem dX3_move_64 : decode cX3_move 64 = .ok (.return_, 1) := by decide +kernel
abbrev x_X3_move (E : mh_E) (d mc ms : Nat) (Post : Option Value → mh_H → Prop) : mh_X := (E, yX3_move, cX3_move, 3, none, d, mc, ms, Post)
def q_X3_move_64 (X : mh_X) : mh_PR := s_vret X
theorem b_X3_move_64 {E : mh_E} {d mc ms : Nat} {Post : Option Value → mh_H → Prop} : mh_S (x_X3_move E d mc ms Post) 64 (q_X3_move_64 (x_X3_move E d mc ms Post)) := sn_vret rfl dX3_move_64
def q_X3_move_0 (X : mh_X) : mh_PR := s_il 1 (s_cs X yX9_isOne 1 (s_if1 (fun x => x = 0) (q_X3_move_64 X) (s_il 2 (s_cs X yX9_isSquare 1 (s_if1 (fun x => x = 0) (q_X3_move_64 X) (s_al 0 (s_gr 3 0 (s_il 1 (s_ald 0 (s_cs X yX9_isSquare 1 (s_if1 (fun x => x = 0) (q_X3_move_64 X) (s_al 0 (s_gr 3 2 (s_al 0 (s_gr 3 0 (s_il 1 (s_ald 0 (s_dup2 (s_ald 0 (s_push (.int (1)) (s_il 1 (s_bin mh_shl (s_push (.int (-1)) (s_bin (fun x y => x ^^^ y) (s_bin (fun x y => x &&& y) (s_ast 0 (fun x => x) (s_al 0 (s_gr 3 2 (s_il 2 (s_dup2 (s_ald 0 (s_push (.int (1)) (s_il 1 (s_bin mh_shl (s_bin (fun x y => x ||| y) (s_ast 0 (fun x => x) (s_al 0 (s_gr 3 0 (s_il 1 (s_il 2 (s_ast 0 (fun x => x) (q_X3_move_64 X))))))))))))))))))))))))))))))))))))))))))
theorem b_X3_move_0 {E : mh_E} {d mc ms : Nat} {Post : Option Value → mh_H → Prop} : mh_S (x_X3_move E d mc ms Post) 0 (q_X3_move_0 (x_X3_move E d mc ms Post)) := sn_iload_n dX3_move_0 rfl (sn_csN w_520 w_376 w_56 nm_X9_isOne dX3_move_1 (sn_if_eq (tgt := 64) dX3_move_4 (by decide) (b_X3_move_64) (sn_iload_n dX3_move_7 rfl (sn_csN w_410 w_379 w_56 nm_X9_isSquare dX3_move_8 (sn_if_eq (tgt := 64) dX3_move_11 (by decide) (b_X3_move_64) (sn_aload_n dX3_move_14 rfl (sn_getr clX3 (by decide) w_96 dX3_move_15 (sn_iload_n dX3_move_18 rfl (sn_iaload dX3_move_19 (sn_csN w_410 w_379 w_56 nm_X9_isSquare dX3_move_20 (sn_if_eq (tgt := 64) dX3_move_23 (by decide) (b_X3_move_64) (sn_aload_n dX3_move_26 rfl (sn_getr clX3 (by decide) w_98 dX3_move_27 (sn_aload_n dX3_move_30 rfl (sn_getr clX3 (by decide) w_96 dX3_move_31 (sn_iload_n dX3_move_34 rfl (sn_iaload dX3_move_35 (sn_dup2 dX3_move_36 (sn_iaload dX3_move_37 (sn_iconst dX3_move_38 (by decide) (sn_iload_n dX3_move_39 rfl (sn_ishl dX3_move_40 (sn_iconst dX3_move_41 (by decide) (sn_ixor dX3_move_42 (sn_iand dX3_move_43 (sn_iastore dX3_move_44 (sn_aload_n dX3_move_45 rfl (sn_getr clX3 (by decide) w_98 dX3_move_46 (sn_iload_n dX3_move_49 rfl (sn_dup2 dX3_move_50 (sn_iaload dX3_move_51 (sn_iconst dX3_move_52 (by decide) (sn_iload_n dX3_move_53 rfl (sn_ishl dX3_move_54 (sn_ior dX3_move_55 (sn_iastore dX3_move_56 (sn_aload_n dX3_move_57 rfl (sn_getr clX3 (by decide) w_96 dX3_move_58 (sn_iload_n dX3_move_61 rfl (sn_iload_n dX3_move_62 rfl (sn_iastore dX3_move_63 b_X3_move_64)))))))))))))))))))))))))))))))))))))))))
theorem m_X3_move {E : mh_E} {d mc ms : Nat} {args : List Value} {h : mh_H} {Post : Option Value → mh_H → Prop} (lv : List (Option Value)) (hl : lv_args 0 args = mh_al 0 lv) (hs : (lg_sl args).length ≤ 3) (hG : q_X3_move_0 (x_X3_move E d mc ms Post) lv [] h 0 0) : mh_M E d mc ms yX3_move args h Post := mh_M.of w_533 (by decide) (by decide) hl hs (b_X3_move_0 _ _ _ _ _ hG)
theorem dX3_promote_0 : decode cX3_promote 0 = .ok (.iload_n 1, 1) := by decide +kernel
theorem dX3_promote_1 : decode cX3_promote 1 = .ok (.invokestatic 30, 3) := by decide +kernel
theorem dX3_promote_4 : decode cX3_promote 4 = .ok (.ifCond .eq 67, 3) := by decide +kernel
theorem dX3_promote_7 : decode cX3_promote 7 = .ok (.iload_n 2, 1) := by decide +kernel
theorem dX3_promote_8 : decode cX3_promote 8 = .ok (.invokestatic 37, 3) := by decide +kernel
theorem dX3_promote_11 : decode cX3_promote 11 = .ok (.ifCond .eq 60, 3) := by decide +kernel
theorem dX3_promote_14 : decode cX3_promote 14 = .ok (.aload_n 0, 1) := by decide +kernel
theorem dX3_promote_15 : decode cX3_promote 15 = .ok (.getfield 15, 3) := by decide +kernel
theorem dX3_promote_18 : decode cX3_promote 18 = .ok (.iload_n 1, 1) := by decide +kernel
theorem dX3_promote_19 : decode cX3_promote 19 = .ok (.iload_n 2, 1) := by decide +kernel
theorem dX3_promote_20 : decode cX3_promote 20 = .ok (.iastore, 1) := by decide +kernel
theorem dX3_promote_21 : decode cX3_promote 21 = .ok (.iconst 0, 1) := by decide +kernel
theorem dX3_promote_22 : decode cX3_promote 22 = .ok (.istore_n 3, 1) := by decide +kernel
theorem dX3_promote_23 : decode cX3_promote 23 = .ok (.iload_n 3, 1) := by decide +kernel
theorem dX3_promote_24 : decode cX3_promote 24 = .ok (.bipush 10, 2) := by decide +kernel
theorem dX3_promote_26 : decode cX3_promote 26 = .ok (.if_icmp .ge 45, 3) := by decide +kernel
theorem dX3_promote_29 : decode cX3_promote 29 = .ok (.aload_n 0, 1) := by decide +kernel
theorem dX3_promote_30 : decode cX3_promote 30 = .ok (.getfield 21, 3) := by decide +kernel
theorem dX3_promote_33 : decode cX3_promote 33 = .ok (.iload_n 3, 1) := by decide +kernel
theorem dX3_promote_34 : decode cX3_promote 34 = .ok (.iload_n 3, 1) := by decide +kernel
theorem dX3_promote_35 : decode cX3_promote 35 = .ok (.iload_n 2, 1) := by decide +kernel
theorem dX3_promote_36 : decode cX3_promote 36 = .ok (.if_icmp .gt 16, 3) := by decide +kernel
theorem dX3_promote_39 : decode cX3_promote 39 = .ok (.aload_n 0, 1) := by decide +kernel
theorem dX3_promote_40 : decode cX3_promote 40 = .ok (.getfield 21, 3) := by decide +kernel
theorem dX3_promote_43 : decode cX3_promote 43 = .ok (.iload_n 3, 1) := by decide +kernel
theorem dX3_promote_44 : decode cX3_promote 44 = .ok (.iaload, 1) := by decide +kernel
theorem dX3_promote_45 : decode cX3_promote 45 = .ok (.iconst 1, 1) := by decide +kernel
theorem dX3_promote_46 : decode cX3_promote 46 = .ok (.iload_n 1, 1) := by decide +kernel
theorem dX3_promote_47 : decode cX3_promote 47 = .ok (.ishl, 1) := by decide +kernel
theorem dX3_promote_48 : decode cX3_promote 48 = .ok (.ior, 1) := by decide +kernel
theorem dX3_promote_49 : decode cX3_promote 49 = .ok (.goto 15, 3) := by decide +kernel
theorem dX3_promote_52 : decode cX3_promote 52 = .ok (.aload_n 0, 1) := by decide +kernel
theorem dX3_promote_53 : decode cX3_promote 53 = .ok (.getfield 21, 3) := by decide +kernel
theorem dX3_promote_56 : decode cX3_promote 56 = .ok (.iload_n 3, 1) := by decide +kernel
theorem dX3_promote_57 : decode cX3_promote 57 = .ok (.iaload, 1) := by decide +kernel
theorem dX3_promote_58 : decode cX3_promote 58 = .ok (.iconst 1, 1) := by decide +kernel
theorem dX3_promote_59 : decode cX3_promote 59 = .ok (.iload_n 1, 1) := by decide +kernel
theorem dX3_promote_60 : decode cX3_promote 60 = .ok (.ishl, 1) := by decide +kernel
theorem dX3_promote_61 : decode cX3_promote 61 = .ok (.iconst (-1), 1) := by decide +kernel
theorem dX3_promote_62 : decode cX3_promote 62 = .ok (.ixor, 1) := by decide +kernel
theorem dX3_promote_63 : decode cX3_promote 63 = .ok (.iand, 1) := by decide +kernel
theorem dX3_promote_64 : decode cX3_promote 64 = .ok (.iastore, 1) := by decide +kernel
theorem dX3_promote_65 : decode cX3_promote 65 = .ok (.iinc 3 1, 3) := by decide +kernel
theorem dX3_promote_68 : decode cX3_promote 68 = .ok (.goto (-45), 3) := by decide +kernel
theorem dX3_promote_71 : decode cX3_promote 71 = .ok (.return_, 1) := by decide +kernel
abbrev x_X3_promote (E : mh_E) (d mc ms : Nat) (Post : Option Value → mh_H → Prop) : mh_X := (E, yX3_promote, cX3_promote, 4, none, d, mc, ms, Post)
def q_X3_promote_71 (X : mh_X) : mh_PR := s_vret X
theorem b_X3_promote_71 {E : mh_E} {d mc ms : Nat} {Post : Option Value → mh_H → Prop} : mh_S (x_X3_promote E d mc ms Post) 71 (q_X3_promote_71 (x_X3_promote E d mc ms Post)) := sn_vret rfl dX3_promote_71
def q_X3_promote_64 (X : mh_X) : mh_PR := s_ast 0 (fun x => x) (s_inc 3 (1) (mh_G X 23))
theorem b_X3_promote_64 {E : mh_E} {d mc ms : Nat} {Post : Option Value → mh_H → Prop} : mh_S (x_X3_promote E d mc ms Post) 64 (q_X3_promote_64 (x_X3_promote E d mc ms Post)) := sn_iastore dX3_promote_64 (sn_iinc dX3_promote_65 (by decide) (Nat.le_of_ble_eq_true rfl) (sn_goto (tgt := 23) dX3_promote_68 (by decide) (mh_S.G)))
def q_X3_promote_23 (X : mh_X) : mh_PR := s_il 3 (s_push (.int (10)) (s_if2 (fun x y => y ≤ x) (q_X3_promote_71 X) (s_al 0 (s_gr 3 3 (s_il 3 (s_il 3 (s_il 2 (s_if2 (fun x y => y < x) (s_al 0 (s_gr 3 3 (s_il 3 (s_ald 0 (s_push (.int (1)) (s_il 1 (s_bin mh_shl (s_push (.int (-1)) (s_bin (fun x y => x ^^^ y) (s_bin (fun x y => x &&& y) (q_X3_promote_64 X))))))))))) (s_al 0 (s_gr 3 3 (s_il 3 (s_ald 0 (s_push (.int (1)) (s_il 1 (s_bin mh_shl (s_bin (fun x y => x ||| y) (q_X3_promote_64 X)))))))))))))))))
theorem b_X3_promote_23 {E : mh_E} {d mc ms : Nat} {Post : Option Value → mh_H → Prop} : mh_S (x_X3_promote E d mc ms Post) 23 (q_X3_promote_23 (x_X3_promote E d mc ms Post)) := sn_iload_n dX3_promote_23 rfl (sn_bipush dX3_promote_24 (by decide) (sn_icmp_ge (tgt := 71) dX3_promote_26 (by decide) (b_X3_promote_71) (sn_aload_n dX3_promote_29 rfl (sn_getr clX3 (by decide) w_99 dX3_promote_30 (sn_iload_n dX3_promote_33 rfl (sn_iload_n dX3_promote_34 rfl (sn_iload_n dX3_promote_35 rfl (sn_icmp_gt (tgt := 52) dX3_promote_36 (by decide) (sn_aload_n dX3_promote_52 rfl (sn_getr clX3 (by decide) w_99 dX3_promote_53 (sn_iload_n dX3_promote_56 rfl (sn_iaload dX3_promote_57 (sn_iconst dX3_promote_58 (by decide) (sn_iload_n dX3_promote_59 rfl (sn_ishl dX3_promote_60 (sn_iconst dX3_promote_61 (by decide) (sn_ixor dX3_promote_62 (sn_iand dX3_promote_63 b_X3_promote_64)))))))))) (sn_aload_n dX3_promote_39 rfl (sn_getr clX3 (by decide) w_99 dX3_promote_40 (sn_iload_n dX3_promote_43 rfl (sn_iaload dX3_promote_44 (sn_iconst dX3_promote_45 (by decide) (sn_iload_n dX3_promote_46 rfl (sn_ishl dX3_promote_47 (sn_ior dX3_promote_48 (sn_goto (tgt := 64) dX3_promote_49 (by decide) (b_X3_promote_64))))))))))))))))))
def q_X3_promote_0 (X : mh_X) : mh_PR := s_il 1 (s_cs X yX9_isOne 1 (s_if1 (fun x => x = 0) (q_X3_promote_71 X) (s_il 2 (s_cs X yX9_isRank 1 (s_if1 (fun x => x = 0) (q_X3_promote_71 X) (s_al 0 (s_gr 3 1 (s_il 1 (s_il 2 (s_ast 0 (fun x => x) (s_push (.int (0)) (s_is 3 (mh_G X 23)))))))))))))
theorem b_X3_promote_0 {E : mh_E} {d mc ms : Nat} {Post : Option Value → mh_H → Prop} : mh_S (x_X3_promote E d mc ms Post) 0 (q_X3_promote_0 (x_X3_promote E d mc ms Post)) := sn_iload_n dX3_promote_0 rfl (sn_csN w_520 w_376 w_56 nm_X9_isOne dX3_promote_1 (sn_if_eq (tgt := 71) dX3_promote_4 (by decide) (b_X3_promote_71) (sn_iload_n dX3_promote_7 rfl (sn_csN w_415 w_382 w_56 nm_X9_isRank dX3_promote_8 (sn_if_eq (tgt := 71) dX3_promote_11 (by decide) (b_X3_promote_71) (sn_aload_n dX3_promote_14 rfl (sn_getr clX3 (by decide) w_97 dX3_promote_15 (sn_iload_n dX3_promote_18 rfl (sn_iload_n dX3_promote_19 rfl (sn_iastore dX3_promote_20 (sn_iconst dX3_promote_21 (by decide) (sn_istore_n dX3_promote_22 rfl (Nat.le_of_ble_eq_true rfl) mh_S.G))))))))))))
theorem m_X3_promote {E : mh_E} {d mc ms : Nat} {args : List Value} {h : mh_H} {Post : Option Value → mh_H → Prop} (lv : List (Option Value)) (hl : lv_args 0 args = mh_al 0 lv) (hs : (lg_sl args).length ≤ 4) (hG : q_X3_promote_0 (x_X3_promote E d mc ms Post) lv [] h 0 0) : mh_M E d mc ms yX3_promote args h Post := mh_M.of w_537 (by decide) (by decide) hl hs (b_X3_promote_0 _ _ _ _ _ hG)
theorem dX3_ranksTogether_0 : decode cX3_ranksTogether 0 = .ok (.iconst 0, 1) := by decide +kernel
theorem dX3_ranksTogether_1 : decode cX3_ranksTogether 1 = .ok (.istore_n 1, 1) := by decide +kernel
theorem dX3_ranksTogether_2 : decode cX3_ranksTogether 2 = .ok (.iconst 0, 1) := by decide +kernel
theorem dX3_ranksTogether_3 : decode cX3_ranksTogether 3 = .ok (.istore_n 2, 1) := by decide +kernel
theorem dX3_ranksTogether_4 : decode cX3_ranksTogether 4 = .ok (.iload_n 2, 1) := by decide +kernel
theorem dX3_ranksTogether_5 : decode cX3_ranksTogether 5 = .ok (.bipush 6, 2) := by decide +kernel
theorem dX3_ranksTogether_7 : decode cX3_ranksTogether 7 = .ok (.if_icmp .ge 18, 3) := by decide +kernel
theorem dX3_ranksTogether_10 : decode cX3_ranksTogether 10 = .ok (.iload_n 1, 1) := by decide +kernel
theorem dX3_ranksTogether_11 : decode cX3_ranksTogether 11 = .ok (.aload_n 0, 1) := by decide +kernel
theorem dX3_ranksTogether_12 : decode cX3_ranksTogether 12 = .ok (.getfield 15, 3) := by decide +kernel
theorem dX3_ranksTogether_15 : decode cX3_ranksTogether 15 = .ok (.iload_n 2, 1) := by decide +kernel
theorem dX3_ranksTogether_16 : decode cX3_ranksTogether 16 = .ok (.iaload, 1) := by decide +kernel
theorem dX3_ranksTogether_17 : decode cX3_ranksTogether 17 = .ok (.iadd, 1) := by decide +kernel
theorem dX3_ranksTogether_18 : decode cX3_ranksTogether 18 = .ok (.istore_n 1, 1) := by decide +kernel
theorem dX3_ranksTogether_19 : decode cX3_ranksTogether 19 = .ok (.iinc 2 1, 3) := by decide +kernel
theorem dX3_ranksTogether_22 : decode cX3_ranksTogether 22 = .ok (.goto (-18), 3) := by decide +kernel
theorem dX3_ranksTogether_25 : decode cX3_ranksTogether 25 = .ok (.iload_n 1, 1) := by decide +kernel
theorem dX3_ranksTogether_26 : decode cX3_ranksTogether 26 = .ok (.ireturn, 1) := by decide +kernel
abbrev x_X3_ranksTogether (E : mh_E) (d mc ms : Nat) (Post : Option Value → mh_H → Prop) : mh_X := (E, yX3_ranksTogether, cX3_ranksTogether, 3, (some .int), d, mc, ms, Post)
def q_X3_ranksTogether_4 (X : mh_X) : mh_PR := s_il 2 (s_push (.int (6)) (s_if2 (fun x y => y ≤ x) (s_il 1 (s_iret X)) (s_il 1 (s_al 0 (s_gr 3 1 (s_il 2 (s_ald 0 (s_bin (fun x y => x + y) (s_is 1 (s_inc 2 (1) (mh_G X 4)))))))))))
theorem b_X3_ranksTogether_4 {E : mh_E} {d mc ms : Nat} {Post : Option Value → mh_H → Prop} : mh_S (x_X3_ranksTogether E d mc ms Post) 4 (q_X3_ranksTogether_4 (x_X3_ranksTogether E d mc ms Post)) := sn_iload_n dX3_ranksTogether_4 rfl (sn_bipush dX3_ranksTogether_5 (by decide) (sn_icmp_ge (tgt := 25) dX3_ranksTogether_7 (by decide) (sn_iload_n dX3_ranksTogether_25 rfl (sn_iret rfl dX3_ranksTogether_26)) (sn_iload_n dX3_ranksTogether_10 rfl (sn_aload_n dX3_ranksTogether_11 rfl (sn_getr clX3 (by decide) w_97 dX3_ranksTogether_12 (sn_iload_n dX3_ranksTogether_15 rfl (sn_iaload dX3_ranksTogether_16 (sn_iadd dX3_ranksTogether_17 (sn_istore_n dX3_ranksTogether_18 rfl (Nat.le_of_ble_eq_true rfl) (sn_iinc dX3_ranksTogether_19 (by decide) (Nat.le_of_ble_eq_true rfl) (sn_goto (tgt := 4) dX3_ranksTogether_22 (by decide) (mh_S.G))))))))))))
def q_X3_ranksTogether_0 (X : mh_X) : mh_PR := s_push (.int (0)) (s_is 1 (s_push (.int (0)) (s_is 2 (mh_G X 4))))
theorem b_X3_ranksTogether_0 {E : mh_E} {d mc ms : Nat} {Post : Option Value → mh_H → Prop} : mh_S (x_X3_ranksTogether E d mc ms Post) 0 (q_X3_ranksTogether_0 (x_X3_ranksTogether E d mc ms Post)) := sn_iconst dX3_ranksTogether_0 (by decide) (sn_istore_n dX3_ranksTogether_1 rfl (Nat.le_of_ble_eq_true rfl) (sn_iconst dX3_ranksTogether_2 (by decide) (sn_istore_n dX3_ranksTogether_3 rfl (Nat.le_of_ble_eq_true rfl) mh_S.G)))
theorem m_X3_ranksTogether {E : mh_E} {d mc ms : Nat} {args : List Value} {h : mh_H} {Post : Option Value → mh_H → Prop} (lv : List (Option Value)) (hl : lv_args 0 args = mh_al 0 lv) (hs : (lg_sl args).length ≤ 3) (hG : q_X3_ranksTogether_0 (x_X3_ranksTogether E d mc ms Post) lv [] h 0 0) : mh_M E d mc ms yX3_ranksTogether args h Post := mh_M.of w_611 (by decide) (by decide) hl hs (b_X3_ranksTogether_0 _ _ _ _ _ hG)
