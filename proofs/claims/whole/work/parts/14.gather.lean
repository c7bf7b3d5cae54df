theorem dX1_init_0 : decode cX1_init 0 = .ok (.aload_n 0, 1) := by decide +kernel
theorem dX1_init_1 : decode cX1_init 1 = .ok (.invokespecial 3, 3) := by decide +kernel
theorem dX1_init_4 : decode cX1_init 4 = .ok (.aload_n 0, 1) := by decide +kernel
theorem dX1_init_5 : decode cX1_init 5 = .ok (.sipush 256, 3) := by decide +kernel
theorem dX1_init_8 : decode cX1_init 8 = .ok (.newarray .int, 2) := by decide +kernel
theorem dX1_init_10 : decode cX1_init 10 = .ok (.putfield 11, 3) := by decide +kernel
theorem dX1_init_13 : decode cX1_init 13 = .ok (.aload_n 0, 1) := by decide +kernel
theorem dX1_init_14 : decode cX1_init 14 = .ok (.iconst 4, 1) := by decide +kernel
theorem dX1_init_15 : decode cX1_init 15 = .ok (.newarray .int, 2) := by decide +kernel
theorem dX1_init_17 : decode cX1_init 17 = .ok (.putfield 15, 3) := by decide +kernel
theorem dX1_init_20 : decode cX1_init 20 = .ok (.aload_n 0, 1) := by decide +kernel
theorem dX1_init_21 : decode cX1_init 21 = .ok (.bipush 6, 2) := by decide +kernel
theorem dX1_init_23 : decode cX1_init 23 = .ok (.newarray .int, 2) := by decide +kernel
theorem dX1_init_25 : decode cX1_init 25 = .ok (.putfield 18, 3) := by decide +kernel
theorem dX1_init_28 : decode cX1_init 28 = .ok (.aload_n 0, 1) := by decide +kernel
theorem dX1_init_29 : decode cX1_init 29 = .ok (.bipush 6, 2) := by decide +kernel
theorem dX1_init_31 : decode cX1_init 31 = .ok (.newarray .int, 2) := by decide +kernel
theorem dX1_init_33 : decode cX1_init 33 = .ok (.putfield 21, 3) := by decide +kernel
theorem dX1_init_36 : decode cX1_init 36 = .ok (.aload_n 0, 1) := by decide +kernel
theorem dX1_init_37 : decode cX1_init 37 = .ok (.iconst 0, 1) := by decide +kernel
theorem dX1_init_38 : decode cX1_init 38 = .ok (.putfield 24, 3) := by decide +kernel
theorem dX1_init_41 : decode cX1_init 41 = .ok (.return_, 1) := by decide +kernel
abbrev x_X1_init (E : mh_E) (d mc ms : Nat) (Post : Option Value → mh_H → Prop) : mh_X := (E, yX1_init, cX1_init, 1, none, d, mc, ms, Post)
def q_X1_init_0 (X : mh_X) : mh_PR := s_al 0 (s_oi X (s_al 0 (s_push (.int (256)) (s_newa X 0 (s_pr 1 0 (s_al 0 (s_push (.int (4)) (s_newa X 0 (s_pr 1 1 (s_al 0 (s_push (.int (6)) (s_newa X 0 (s_pr 1 2 (s_al 0 (s_push (.int (6)) (s_newa X 0 (s_pr 1 3 (s_al 0 (s_push (.int (0)) (s_pi 1 4 (s_vret X)))))))))))))))))))))
theorem b_X1_init_0 {E : mh_E} {d mc ms : Nat} {Post : Option Value → mh_H → Prop} : mh_S (x_X1_init E d mc ms Post) 0 (q_X1_init_0 (x_X1_init E d mc ms Post)) := sn_aload_n dX1_init_0 rfl (sn_oi w_223 w_82 w_oi dX1_init_1 (sn_aload_n dX1_init_4 rfl (sn_sipush dX1_init_5 (by decide) (sn_newint w_109 dX1_init_8 (sn_putrF clX1 (by decide) w_224 rfl rfl rfl (Or.inr ⟨_, rfl⟩) dX1_init_10 (sn_aload_n dX1_init_13 rfl (sn_iconst dX1_init_14 (by decide) (sn_newint w_109 dX1_init_15 (sn_putrF clX1 (by decide) w_225 rfl rfl rfl (Or.inr ⟨_, rfl⟩) dX1_init_17 (sn_aload_n dX1_init_20 rfl (sn_bipush dX1_init_21 (by decide) (sn_newint w_109 dX1_init_23 (sn_putrF clX1 (by decide) w_226 rfl rfl rfl (Or.inr ⟨_, rfl⟩) dX1_init_25 (sn_aload_n dX1_init_28 rfl (sn_bipush dX1_init_29 (by decide) (sn_newint w_109 dX1_init_31 (sn_putrF clX1 (by decide) w_227 rfl rfl rfl (Or.inr ⟨_, rfl⟩) dX1_init_33 (sn_aload_n dX1_init_36 rfl (sn_iconst dX1_init_37 (by decide) (sn_puti clX1 (by decide) w_228 rfl rfl dX1_init_38 (sn_vret rfl dX1_init_41)))))))))))))))))))))
theorem m_X1_init {E : mh_E} {d mc ms : Nat} {args : List Value} {h : mh_H} {Post : Option Value → mh_H → Prop} (lv : List (Option Value)) (hl : lv_args 0 args = mh_al 0 lv) (hs : (lg_sl args).length ≤ 1) (hG : q_X1_init_0 (x_X1_init E d mc ms Post) lv [] h 0 0) : mh_M E d mc ms yX1_init args h Post := mh_M.of w_222 (by decide) (by decide) hl hs (b_X1_init_0 _ _ _ _ _ hG)
theorem dX1_squareOf_0 : decode cX1_squareOf 0 = .ok (.iload_n 1, 1) := by decide +kernel
theorem dX1_squareOf_1 : decode cX1_squareOf 1 = .ok (.invokestatic 28, 3) := by decide +kernel
theorem dX1_squareOf_4 : decode cX1_squareOf 4 = .ok (.ifCond .eq 12, 3) := by decide +kernel
theorem dX1_squareOf_7 : decode cX1_squareOf 7 = .ok (.aload_n 0, 1) := by decide +kernel
theorem dX1_squareOf_8 : decode cX1_squareOf 8 = .ok (.getfield 21, 3) := by decide +kernel
theorem dX1_squareOf_11 : decode cX1_squareOf 11 = .ok (.iload_n 1, 1) := by decide +kernel
theorem dX1_squareOf_12 : decode cX1_squareOf 12 = .ok (.iaload, 1) := by decide +kernel
theorem dX1_squareOf_13 : decode cX1_squareOf 13 = .ok (.goto 4, 3) := by decide +kernel
theorem dX1_squareOf_16 : decode cX1_squareOf 16 = .ok (.iconst 0, 1) := by decide +kernel
theorem dX1_squareOf_17 : decode cX1_squareOf 17 = .ok (.ireturn, 1) := by decide +kernel
abbrev x_X1_squareOf (E : mh_E) (d mc ms : Nat) (Post : Option Value → mh_H → Prop) : mh_X := (E, yX1_squareOf, cX1_squareOf, 2, (some .int), d, mc, ms, Post)
def q_X1_squareOf_17 (X : mh_X) : mh_PR := s_iret X
theorem b_X1_squareOf_17 {E : mh_E} {d mc ms : Nat} {Post : Option Value → mh_H → Prop} : mh_S (x_X1_squareOf E d mc ms Post) 17 (q_X1_squareOf_17 (x_X1_squareOf E d mc ms Post)) := sn_iret rfl dX1_squareOf_17
def q_X1_squareOf_0 (X : mh_X) : mh_PR := s_il 1 (s_cs X yX9_isOne 1 (s_if1 (fun x => x = 0) (s_push (.int (0)) (q_X1_squareOf_17 X)) (s_al 0 (s_gr 1 3 (s_il 1 (s_ald 0 (q_X1_squareOf_17 X)))))))
theorem b_X1_squareOf_0 {E : mh_E} {d mc ms : Nat} {Post : Option Value → mh_H → Prop} : mh_S (x_X1_squareOf E d mc ms Post) 0 (q_X1_squareOf_0 (x_X1_squareOf E d mc ms Post)) := sn_iload_n dX1_squareOf_0 rfl (sn_csN w_649 w_376 w_56 nm_X9_isOne dX1_squareOf_1 (sn_if_eq (tgt := 16) dX1_squareOf_4 (by decide) (sn_iconst dX1_squareOf_16 (by decide) b_X1_squareOf_17) (sn_aload_n dX1_squareOf_7 rfl (sn_getr clX1 (by decide) w_227 dX1_squareOf_8 (sn_iload_n dX1_squareOf_11 rfl (sn_iaload dX1_squareOf_12 (sn_goto (tgt := 17) dX1_squareOf_13 (by decide) (b_X1_squareOf_17))))))))
theorem m_X1_squareOf {E : mh_E} {d mc ms : Nat} {args : List Value} {h : mh_H} {Post : Option Value → mh_H → Prop} (lv : List (Option Value)) (hl : lv_args 0 args = mh_al 0 lv) (hs : (lg_sl args).length ≤ 2) (hG : q_X1_squareOf_0 (x_X1_squareOf E d mc ms Post) lv [] h 0 0) : mh_M E d mc ms yX1_squareOf args h Post := mh_M.of w_648 (by decide) (by decide) hl hs (b_X1_squareOf_0 _ _ _ _ _ hG)
theorem dX1_seek_0 : decode cX1_seek 0 = .ok (.aload_n 0, 1) := by decide +kernel
theorem dX1_seek_1 : decode cX1_seek 1 = .ok (.aload_n 1, 1) := by decide +kernel
theorem dX1_seek_2 : decode cX1_seek 2 = .ok (.iload_n 2, 1) := by decide +kernel
theorem dX1_seek_3 : decode cX1_seek 3 = .ok (.invokevirtual 32, 3) := by decide +kernel
theorem dX1_seek_6 : decode cX1_seek 6 = .ok (.aload_n 0, 1) := by decide +kernel
theorem dX1_seek_7 : decode cX1_seek 7 = .ok (.getfield 18, 3) := by decide +kernel
theorem dX1_seek_10 : decode cX1_seek 10 = .ok (.iconst 0, 1) := by decide +kernel
theorem dX1_seek_11 : decode cX1_seek 11 = .ok (.invokestatic 36, 3) := by decide +kernel
theorem dX1_seek_14 : decode cX1_seek 14 = .ok (.aload_n 0, 1) := by decide +kernel
theorem dX1_seek_15 : decode cX1_seek 15 = .ok (.getfield 15, 3) := by decide +kernel
theorem dX1_seek_18 : decode cX1_seek 18 = .ok (.iconst 0, 1) := by decide +kernel
theorem dX1_seek_19 : decode cX1_seek 19 = .ok (.invokestatic 36, 3) := by decide +kernel
theorem dX1_seek_22 : decode cX1_seek 22 = .ok (.aload_n 0, 1) := by decide +kernel
theorem dX1_seek_23 : decode cX1_seek 23 = .ok (.getfield 15, 3) := by decide +kernel
theorem dX1_seek_26 : decode cX1_seek 26 = .ok (.iconst 0, 1) := by decide +kernel
theorem dX1_seek_27 : decode cX1_seek 27 = .ok (.bipush 63, 2) := by decide +kernel
theorem dX1_seek_29 : decode cX1_seek 29 = .ok (.iastore, 1) := by decide +kernel
theorem dX1_seek_30 : decode cX1_seek 30 = .ok (.iload_n 2, 1) := by decide +kernel
theorem dX1_seek_31 : decode cX1_seek 31 = .ok (.invokestatic 42, 3) := by decide +kernel
theorem dX1_seek_34 : decode cX1_seek 34 = .ok (.istore_n 3, 1) := by decide +kernel
theorem dX1_seek_35 : decode cX1_seek 35 = .ok (.aload_n 0, 1) := by decide +kernel
theorem dX1_seek_36 : decode cX1_seek 36 = .ok (.iconst (-1), 1) := by decide +kernel
theorem dX1_seek_37 : decode cX1_seek 37 = .ok (.putfield 24, 3) := by decide +kernel
theorem dX1_seek_40 : decode cX1_seek 40 = .ok (.iconst 0, 1) := by decide +kernel
theorem dX1_seek_41 : decode cX1_seek 41 = .ok (.istore 4, 2) := by decide +kernel
theorem dX1_seek_43 : decode cX1_seek 43 = .ok (.iload 4, 2) := by decide +kernel
theorem dX1_seek_45 : decode cX1_seek 45 = .ok (.sipush 4096, 3) := by decide +kernel
theorem dX1_seek_48 : decode cX1_seek 48 = .ok (.if_icmp .ge 57, 3) := by decide +kernel
theorem dX1_seek_51 : decode cX1_seek 51 = .ok (.aload_n 0, 1) := by decide +kernel
theorem dX1_seek_52 : decode cX1_seek 52 = .ok (.getfield 24, 3) := by decide +kernel
theorem dX1_seek_55 : decode cX1_seek 55 = .ok (.iload_n 3, 1) := by decide +kernel
theorem dX1_seek_56 : decode cX1_seek 56 = .ok (.if_icmp .ge 49, 3) := by decide +kernel
theorem dX1_seek_59 : decode cX1_seek 59 = .ok (.aload_n 0, 1) := by decide +kernel
theorem dX1_seek_60 : decode cX1_seek 60 = .ok (.invokevirtual 48, 3) := by decide +kernel
theorem dX1_seek_63 : decode cX1_seek 63 = .ok (.istore 5, 2) := by decide +kernel
theorem dX1_seek_65 : decode cX1_seek 65 = .ok (.iload 5, 2) := by decide +kernel
theorem dX1_seek_67 : decode cX1_seek 67 = .ok (.aload_n 0, 1) := by decide +kernel
theorem dX1_seek_68 : decode cX1_seek 68 = .ok (.getfield 24, 3) := by decide +kernel
theorem dX1_seek_71 : decode cX1_seek 71 = .ok (.if_icmp .le 24, 3) := by decide +kernel
theorem dX1_seek_74 : decode cX1_seek 74 = .ok (.aload_n 0, 1) := by decide +kernel
theorem dX1_seek_75 : decode cX1_seek 75 = .ok (.iload 5, 2) := by decide +kernel
theorem dX1_seek_77 : decode cX1_seek 77 = .ok (.putfield 24, 3) := by decide +kernel
theorem dX1_seek_80 : decode cX1_seek 80 = .ok (.aload_n 0, 1) := by decide +kernel
theorem dX1_seek_81 : decode cX1_seek 81 = .ok (.getfield 18, 3) := by decide +kernel
theorem dX1_seek_84 : decode cX1_seek 84 = .ok (.iconst 0, 1) := by decide +kernel
theorem dX1_seek_85 : decode cX1_seek 85 = .ok (.aload_n 0, 1) := by decide +kernel
theorem dX1_seek_86 : decode cX1_seek 86 = .ok (.getfield 21, 3) := by decide +kernel
theorem dX1_seek_89 : decode cX1_seek 89 = .ok (.iconst 0, 1) := by decide +kernel
theorem dX1_seek_90 : decode cX1_seek 90 = .ok (.bipush 6, 2) := by decide +kernel
theorem dX1_seek_92 : decode cX1_seek 92 = .ok (.invokestatic 52, 3) := by decide +kernel
theorem dX1_seek_95 : decode cX1_seek 95 = .ok (.aload_n 0, 1) := by decide +kernel
theorem dX1_seek_96 : decode cX1_seek 96 = .ok (.invokevirtual 58, 3) := by decide +kernel
theorem dX1_seek_99 : decode cX1_seek 99 = .ok (.iinc 4 1, 3) := by decide +kernel
theorem dX1_seek_102 : decode cX1_seek 102 = .ok (.goto (-59), 3) := by decide +kernel
theorem dX1_seek_105 : decode cX1_seek 105 = .ok (.return_, 1) := by decide +kernel
abbrev x_X1_seek (E : mh_E) (d mc ms : Nat) (Post : Option Value → mh_H → Prop) : mh_X := (E, yX1_seek, cX1_seek, 6, none, d, mc, ms, Post)
def q_X1_seek_105 (X : mh_X) : mh_PR := s_vret X
theorem b_X1_seek_105 {E : mh_E} {d mc ms : Nat} {Post : Option Value → mh_H → Prop} : mh_S (x_X1_seek E d mc ms Post) 105 (q_X1_seek_105 (x_X1_seek E d mc ms Post)) := sn_vret rfl dX1_seek_105
def q_X1_seek_95 (X : mh_X) : mh_PR := s_al 0 (s_cv X yX1_goOn 1 0 (s_inc 4 (1) (mh_G X 43)))
theorem b_X1_seek_95 {E : mh_E} {d mc ms : Nat} {Post : Option Value → mh_H → Prop} : mh_S (x_X1_seek E d mc ms Post) 95 (q_X1_seek_95 (x_X1_seek E d mc ms Post)) := sn_aload_n dX1_seek_95 rfl (sn_cv w_641 w_643 w_5 w_62 rfl nm_X1_goOn dX1_seek_96 (sn_iinc dX1_seek_99 (by decide) (Nat.le_of_ble_eq_true rfl) (sn_goto (tgt := 43) dX1_seek_102 (by decide) (mh_S.G))))
def q_X1_seek_43 (X : mh_X) : mh_PR := s_il 4 (s_push (.int (4096)) (s_if2 (fun x y => y ≤ x) (q_X1_seek_105 X) (s_al 0 (s_gi 1 4 (s_il 3 (s_if2 (fun x y => y ≤ x) (q_X1_seek_105 X) (s_al 0 (s_cv X yX1_holding 1 0 (s_is 5 (s_il 5 (s_al 0 (s_gi 1 4 (s_if2 (fun x y => x ≤ y) (q_X1_seek_95 X) (s_al 0 (s_il 5 (s_pi 1 4 (s_al 0 (s_gr 1 2 (s_push (.int (0)) (s_al 0 (s_gr 1 3 (s_push (.int (0)) (s_push (.int (6)) (s_ac X (q_X1_seek_95 X)))))))))))))))))))))))))
theorem b_X1_seek_43 {E : mh_E} {d mc ms : Nat} {Post : Option Value → mh_H → Prop} : mh_S (x_X1_seek E d mc ms Post) 43 (q_X1_seek_43 (x_X1_seek E d mc ms Post)) := sn_iload dX1_seek_43 (sn_sipush dX1_seek_45 (by decide) (sn_icmp_ge (tgt := 105) dX1_seek_48 (by decide) (b_X1_seek_105) (sn_aload_n dX1_seek_51 rfl (sn_geti clX1 (by decide) w_228 dX1_seek_52 (sn_iload_n dX1_seek_55 rfl (sn_icmp_ge (tgt := 105) dX1_seek_56 (by decide) (b_X1_seek_105) (sn_aload_n dX1_seek_59 rfl (sn_cv w_634 w_636 w_4 w_62 rfl nm_X1_holding dX1_seek_60 (sn_istore dX1_seek_63 (Nat.le_of_ble_eq_true rfl) (sn_iload dX1_seek_65 (sn_aload_n dX1_seek_67 rfl (sn_geti clX1 (by decide) w_228 dX1_seek_68 (sn_icmp_le (tgt := 95) dX1_seek_71 (by decide) (b_X1_seek_95) (sn_aload_n dX1_seek_74 rfl (sn_iload dX1_seek_75 (sn_puti clX1 (by decide) w_228 rfl rfl dX1_seek_77 (sn_aload_n dX1_seek_80 rfl (sn_getr clX1 (by decide) w_226 dX1_seek_81 (sn_iconst dX1_seek_84 (by decide) (sn_aload_n dX1_seek_85 rfl (sn_getr clX1 (by decide) w_227 dX1_seek_86 (sn_iconst dX1_seek_89 (by decide) (sn_bipush dX1_seek_90 (by decide) (sn_ac w_638 w_acN w_acS w_70 dX1_seek_92 b_X1_seek_95))))))))))))))))))))))))
def q_X1_seek_0 (X : mh_X) : mh_PR := s_al 0 (s_al 1 (s_il 2 (s_cv X yX1_countHeld 1 2 (s_al 0 (s_gr 1 2 (s_push (.int (0)) (s_cs X yJ7_fill_53178 2 (s_al 0 (s_gr 1 1 (s_push (.int (0)) (s_cs X yJ7_fill_53178 2 (s_al 0 (s_gr 1 1 (s_push (.int (0)) (s_push (.int (63)) (s_ast 0 (fun x => x) (s_il 2 (s_cs X yJ6_bitCount_0f7a4 1 (s_is 3 (s_al 0 (s_push (.int (-1)) (s_pi 1 4 (s_push (.int (0)) (s_is 4 (mh_G X 43)))))))))))))))))))))))))
theorem b_X1_seek_0 {E : mh_E} {d mc ms : Nat} {Post : Option Value → mh_H → Prop} : mh_S (x_X1_seek E d mc ms Post) 0 (q_X1_seek_0 (x_X1_seek E d mc ms Post)) := sn_aload_n dX1_seek_0 rfl (sn_aload_n dX1_seek_1 rfl (sn_iload_n dX1_seek_2 rfl (sn_cv w_620 w_622 w_3 w_62 rfl nm_X1_countHeld dX1_seek_3 (sn_aload_n dX1_seek_6 rfl (sn_getr clX1 (by decide) w_226 dX1_seek_7 (sn_iconst dX1_seek_10 (by decide) (sn_cs w_624 w_122 w_60 nm_J7_fill_53178 dX1_seek_11 (sn_aload_n dX1_seek_14 rfl (sn_getr clX1 (by decide) w_225 dX1_seek_15 (sn_iconst dX1_seek_18 (by decide) (sn_cs w_624 w_122 w_60 nm_J7_fill_53178 dX1_seek_19 (sn_aload_n dX1_seek_22 rfl (sn_getr clX1 (by decide) w_225 dX1_seek_23 (sn_iconst dX1_seek_26 (by decide) (sn_bipush dX1_seek_27 (by decide) (sn_iastore dX1_seek_29 (sn_iload_n dX1_seek_30 rfl (sn_cs w_628 w_629 w_69 nm_J6_bitCount_0f7a4 dX1_seek_31 (sn_istore_n dX1_seek_34 rfl (Nat.le_of_ble_eq_true rfl) (sn_aload_n dX1_seek_35 rfl (sn_iconst dX1_seek_36 (by decide) (sn_puti clX1 (by decide) w_228 rfl rfl dX1_seek_37 (sn_iconst dX1_seek_40 (by decide) (sn_istore dX1_seek_41 (Nat.le_of_ble_eq_true rfl) mh_S.G))))))))))))))))))))))))
theorem m_X1_seek {E : mh_E} {d mc ms : Nat} {args : List Value} {h : mh_H} {Post : Option Value → mh_H → Prop} (lv : List (Option Value)) (hl : lv_args 0 args = mh_al 0 lv) (hs : (lg_sl args).length ≤ 6) (hG : q_X1_seek_0 (x_X1_seek E d mc ms Post) lv [] h 0 0) : mh_M E d mc ms yX1_seek args h Post := mh_M.of w_619 (by decide) (by decide) hl hs (b_X1_seek_0 _ _ _ _ _ hG)
theorem dX1_countHeld_0 : decode cX1_countHeld 0 = .ok (.aload_n 0, 1) := by decide +kernel
theorem dX1_countHeld_1 : decode cX1_countHeld 1 = .ok (.getfield 11, 3) := by decide +kernel
theorem dX1_countHeld_4 : decode cX1_countHeld 4 = .ok (.iconst 0, 1) := by decide +kernel
theorem dX1_countHeld_5 : decode cX1_countHeld 5 = .ok (.invokestatic 36, 3) := by decide +kernel
theorem dX1_countHeld_8 : decode cX1_countHeld 8 = .ok (.iconst 0, 1) := by decide +kernel
theorem dX1_countHeld_9 : decode cX1_countHeld 9 = .ok (.istore_n 3, 1) := by decide +kernel
theorem dX1_countHeld_10 : decode cX1_countHeld 10 = .ok (.iload_n 3, 1) := by decide +kernel
theorem dX1_countHeld_11 : decode cX1_countHeld 11 = .ok (.aload_n 1, 1) := by decide +kernel
theorem dX1_countHeld_12 : decode cX1_countHeld 12 = .ok (.getfield 61, 3) := by decide +kernel
theorem dX1_countHeld_15 : decode cX1_countHeld 15 = .ok (.if_icmp .ge 108, 3) := by decide +kernel
theorem dX1_countHeld_18 : decode cX1_countHeld 18 = .ok (.iload_n 3, 1) := by decide +kernel
theorem dX1_countHeld_19 : decode cX1_countHeld 19 = .ok (.bipush 10, 2) := by decide +kernel
theorem dX1_countHeld_21 : decode cX1_countHeld 21 = .ok (.if_icmp .ge 102, 3) := by decide +kernel
theorem dX1_countHeld_24 : decode cX1_countHeld 24 = .ok (.aload_n 1, 1) := by decide +kernel
theorem dX1_countHeld_25 : decode cX1_countHeld 25 = .ok (.getfield 66, 3) := by decide +kernel
theorem dX1_countHeld_28 : decode cX1_countHeld 28 = .ok (.iload_n 3, 1) := by decide +kernel
theorem dX1_countHeld_29 : decode cX1_countHeld 29 = .ok (.aaload, 1) := by decide +kernel
theorem dX1_countHeld_30 : decode cX1_countHeld 30 = .ok (.astore 4, 2) := by decide +kernel
theorem dX1_countHeld_32 : decode cX1_countHeld 32 = .ok (.iload_n 2, 1) := by decide +kernel
theorem dX1_countHeld_33 : decode cX1_countHeld 33 = .ok (.iload_n 3, 1) := by decide +kernel
theorem dX1_countHeld_34 : decode cX1_countHeld 34 = .ok (.ishr, 1) := by decide +kernel
theorem dX1_countHeld_35 : decode cX1_countHeld 35 = .ok (.iconst 1, 1) := by decide +kernel
theorem dX1_countHeld_36 : decode cX1_countHeld 36 = .ok (.iand, 1) := by decide +kernel
theorem dX1_countHeld_37 : decode cX1_countHeld 37 = .ok (.ifCond .eq 80, 3) := by decide +kernel
theorem dX1_countHeld_40 : decode cX1_countHeld 40 = .ok (.aload 4, 2) := by decide +kernel
theorem dX1_countHeld_42 : decode cX1_countHeld 42 = .ok (.getfield 70, 3) := by decide +kernel
theorem dX1_countHeld_45 : decode cX1_countHeld 45 = .ok (.invokestatic 75, 3) := by decide +kernel
theorem dX1_countHeld_48 : decode cX1_countHeld 48 = .ok (.ifCond .eq 69, 3) := by decide +kernel
theorem dX1_countHeld_51 : decode cX1_countHeld 51 = .ok (.aload_n 1, 1) := by decide +kernel
theorem dX1_countHeld_52 : decode cX1_countHeld 52 = .ok (.getfield 78, 3) := by decide +kernel
theorem dX1_countHeld_55 : decode cX1_countHeld 55 = .ok (.aload 4, 2) := by decide +kernel
theorem dX1_countHeld_57 : decode cX1_countHeld 57 = .ok (.getfield 82, 3) := by decide +kernel
theorem dX1_countHeld_60 : decode cX1_countHeld 60 = .ok (.invokevirtual 85, 3) := by decide +kernel
theorem dX1_countHeld_63 : decode cX1_countHeld 63 = .ok (.istore 5, 2) := by decide +kernel
theorem dX1_countHeld_65 : decode cX1_countHeld 65 = .ok (.iconst 0, 1) := by decide +kernel
theorem dX1_countHeld_66 : decode cX1_countHeld 66 = .ok (.istore 6, 2) := by decide +kernel
theorem dX1_countHeld_68 : decode cX1_countHeld 68 = .ok (.iload 6, 2) := by decide +kernel
theorem dX1_countHeld_70 : decode cX1_countHeld 70 = .ok (.bipush 64, 2) := by decide +kernel
theorem dX1_countHeld_72 : decode cX1_countHeld 72 = .ok (.if_icmp .ge 45, 3) := by decide +kernel
theorem dX1_countHeld_75 : decode cX1_countHeld 75 = .ok (.aload_n 0, 1) := by decide +kernel
theorem dX1_countHeld_76 : decode cX1_countHeld 76 = .ok (.getfield 11, 3) := by decide +kernel
theorem dX1_countHeld_79 : decode cX1_countHeld 79 = .ok (.aload 4, 2) := by decide +kernel
theorem dX1_countHeld_81 : decode cX1_countHeld 81 = .ok (.getfield 70, 3) := by decide +kernel
theorem dX1_countHeld_84 : decode cX1_countHeld 84 = .ok (.bipush 64, 2) := by decide +kernel
theorem dX1_countHeld_86 : decode cX1_countHeld 86 = .ok (.imul, 1) := by decide +kernel
theorem dX1_countHeld_87 : decode cX1_countHeld 87 = .ok (.iload 6, 2) := by decide +kernel
theorem dX1_countHeld_89 : decode cX1_countHeld 89 = .ok (.iadd, 1) := by decide +kernel
theorem dX1_countHeld_90 : decode cX1_countHeld 90 = .ok (.dup2, 1) := by decide +kernel
theorem dX1_countHeld_91 : decode cX1_countHeld 91 = .ok (.iaload, 1) := by decide +kernel
theorem dX1_countHeld_92 : decode cX1_countHeld 92 = .ok (.aload 4, 2) := by decide +kernel
theorem dX1_countHeld_94 : decode cX1_countHeld 94 = .ok (.iload 6, 2) := by decide +kernel
theorem dX1_countHeld_96 : decode cX1_countHeld 96 = .ok (.iload 5, 2) := by decide +kernel
theorem dX1_countHeld_98 : decode cX1_countHeld 98 = .ok (.invokevirtual 90, 3) := by decide +kernel
theorem dX1_countHeld_101 : decode cX1_countHeld 101 = .ok (.ifCond .eq 7, 3) := by decide +kernel
theorem dX1_countHeld_104 : decode cX1_countHeld 104 = .ok (.iconst 1, 1) := by decide +kernel
theorem dX1_countHeld_105 : decode cX1_countHeld 105 = .ok (.goto 4, 3) := by decide +kernel
theorem dX1_countHeld_108 : decode cX1_countHeld 108 = .ok (.iconst 0, 1) := by decide +kernel
theorem dX1_countHeld_109 : decode cX1_countHeld 109 = .ok (.iadd, 1) := by decide +kernel
theorem dX1_countHeld_110 : decode cX1_countHeld 110 = .ok (.iastore, 1) := by decide +kernel
theorem dX1_countHeld_111 : decode cX1_countHeld 111 = .ok (.iinc 6 1, 3) := by decide +kernel
theorem dX1_countHeld_114 : decode cX1_countHeld 114 = .ok (.goto (-46), 3) := by decide +kernel
theorem dX1_countHeld_117 : decode cX1_countHeld 117 = .ok (.iinc 3 1, 3) := by decide +kernel
theorem dX1_countHeld_120 : decode cX1_countHeld 120 = .ok (.goto (-110), 3) := by decide +kernel
theorem dX1_countHeld_123 : decode cX1_countHeld 123 = .ok (.return_, 1) := by decide +kernel
abbrev x_X1_countHeld (E : mh_E) (d mc ms : Nat) (Post : Option Value → mh_H → Prop) : mh_X := (E, yX1_countHeld, cX1_countHeld, 7, none, d, mc, ms, Post)
def q_X1_countHeld_123 (X : mh_X) : mh_PR := s_vret X
theorem b_X1_countHeld_123 {E : mh_E} {d mc ms : Nat} {Post : Option Value → mh_H → Prop} : mh_S (x_X1_countHeld E d mc ms Post) 123 (q_X1_countHeld_123 (x_X1_countHeld E d mc ms Post)) := sn_vret rfl dX1_countHeld_123
def q_X1_countHeld_117 (X : mh_X) : mh_PR := s_inc 3 (1) (mh_G X 10)
theorem b_X1_countHeld_117 {E : mh_E} {d mc ms : Nat} {Post : Option Value → mh_H → Prop} : mh_S (x_X1_countHeld E d mc ms Post) 117 (q_X1_countHeld_117 (x_X1_countHeld E d mc ms Post)) := sn_iinc dX1_countHeld_117 (by decide) (Nat.le_of_ble_eq_true rfl) (sn_goto (tgt := 10) dX1_countHeld_120 (by decide) (mh_S.G))
def q_X1_countHeld_109 (X : mh_X) : mh_PR := s_bin (fun x y => x + y) (s_ast 0 (fun x => x) (s_inc 6 (1) (mh_G X 68)))
theorem b_X1_countHeld_109 {E : mh_E} {d mc ms : Nat} {Post : Option Value → mh_H → Prop} : mh_S (x_X1_countHeld E d mc ms Post) 109 (q_X1_countHeld_109 (x_X1_countHeld E d mc ms Post)) := sn_iadd dX1_countHeld_109 (sn_iastore dX1_countHeld_110 (sn_iinc dX1_countHeld_111 (by decide) (Nat.le_of_ble_eq_true rfl) (sn_goto (tgt := 68) dX1_countHeld_114 (by decide) (mh_S.G))))
def q_X1_countHeld_68 (X : mh_X) : mh_PR := s_il 6 (s_push (.int (64)) (s_if2 (fun x y => y ≤ x) (q_X1_countHeld_117 X) (s_al 0 (s_gr 1 0 (s_al 4 (s_gi 6 2 (s_push (.int (64)) (s_bin (fun x y => x * y) (s_il 6 (s_bin (fun x y => x + y) (s_dup2 (s_ald 0 (s_al 4 (s_il 6 (s_il 5 (s_cv X yX6_holdsWith 6 2 (s_if1 (fun x => x = 0) (s_push (.int (0)) (q_X1_countHeld_109 X)) (s_push (.int (1)) (q_X1_countHeld_109 X)))))))))))))))))))
theorem b_X1_countHeld_68 {E : mh_E} {d mc ms : Nat} {Post : Option Value → mh_H → Prop} : mh_S (x_X1_countHeld E d mc ms Post) 68 (q_X1_countHeld_68 (x_X1_countHeld E d mc ms Post)) := sn_iload dX1_countHeld_68 (sn_bipush dX1_countHeld_70 (by decide) (sn_icmp_ge (tgt := 117) dX1_countHeld_72 (by decide) (b_X1_countHeld_117) (sn_aload_n dX1_countHeld_75 rfl (sn_getr clX1 (by decide) w_224 dX1_countHeld_76 (sn_aload dX1_countHeld_79 (sn_geti clX6 (by decide) w_150 dX1_countHeld_81 (sn_bipush dX1_countHeld_84 (by decide) (sn_imul dX1_countHeld_86 (sn_iload dX1_countHeld_87 (sn_iadd dX1_countHeld_89 (sn_dup2 dX1_countHeld_90 (sn_iaload dX1_countHeld_91 (sn_aload dX1_countHeld_92 (sn_iload dX1_countHeld_94 (sn_iload dX1_countHeld_96 (sn_cv w_627 w_417 w_418 w_61 rfl nm_X6_holdsWith dX1_countHeld_98 (sn_if_eq (tgt := 108) dX1_countHeld_101 (by decide) (sn_iconst dX1_countHeld_108 (by decide) b_X1_countHeld_109) (sn_iconst dX1_countHeld_104 (by decide) (sn_goto (tgt := 109) dX1_countHeld_105 (by decide) (b_X1_countHeld_109))))))))))))))))))))
def q_X1_countHeld_10 (X : mh_X) : mh_PR := s_il 3 (s_al 1 (s_gi 0 3 (s_if2 (fun x y => y ≤ x) (q_X1_countHeld_123 X) (s_il 3 (s_push (.int (10)) (s_if2 (fun x y => y ≤ x) (q_X1_countHeld_123 X) (s_al 1 (s_gr 0 1 (s_il 3 (s_aald 6 (s_as 4 (s_il 2 (s_il 3 (s_bin mh_shr (s_push (.int (1)) (s_bin (fun x y => x &&& y) (s_if1 (fun x => x = 0) (q_X1_countHeld_117 X) (s_al 4 (s_gi 6 2 (s_cs X yX9_isSquare 1 (s_if1 (fun x => x = 0) (q_X1_countHeld_117 X) (s_al 1 (s_gr 0 0 (s_al 4 (s_gi 6 3 (s_cv X yX3_ableTo 3 1 (s_is 5 (s_push (.int (0)) (s_is 6 (mh_G X 68))))))))))))))))))))))))))))))
theorem b_X1_countHeld_10 {E : mh_E} {d mc ms : Nat} {Post : Option Value → mh_H → Prop} : mh_S (x_X1_countHeld E d mc ms Post) 10 (q_X1_countHeld_10 (x_X1_countHeld E d mc ms Post)) := sn_iload_n dX1_countHeld_10 rfl (sn_aload_n dX1_countHeld_11 rfl (sn_geti clX0 (by decide) w_183 dX1_countHeld_12 (sn_icmp_ge (tgt := 123) dX1_countHeld_15 (by decide) (b_X1_countHeld_123) (sn_iload_n dX1_countHeld_18 rfl (sn_bipush dX1_countHeld_19 (by decide) (sn_icmp_ge (tgt := 123) dX1_countHeld_21 (by decide) (b_X1_countHeld_123) (sn_aload_n dX1_countHeld_24 rfl (sn_getr clX0 (by decide) w_179 dX1_countHeld_25 (sn_iload_n dX1_countHeld_28 rfl (sn_aaload (by decide) rfl dX1_countHeld_29 (sn_astore dX1_countHeld_30 (Nat.le_of_ble_eq_true rfl) (sn_iload_n dX1_countHeld_32 rfl (sn_iload_n dX1_countHeld_33 rfl (sn_ishr dX1_countHeld_34 (sn_iconst dX1_countHeld_35 (by decide) (sn_iand dX1_countHeld_36 (sn_if_eq (tgt := 117) dX1_countHeld_37 (by decide) (b_X1_countHeld_117) (sn_aload dX1_countHeld_40 (sn_geti clX6 (by decide) w_150 dX1_countHeld_42 (sn_csN w_625 w_379 w_56 nm_X9_isSquare dX1_countHeld_45 (sn_if_eq (tgt := 117) dX1_countHeld_48 (by decide) (b_X1_countHeld_117) (sn_aload_n dX1_countHeld_51 rfl (sn_getr clX0 (by decide) w_175 dX1_countHeld_52 (sn_aload dX1_countHeld_55 (sn_geti clX6 (by decide) w_154 dX1_countHeld_57 (sn_cv w_626 w_412 w_413 w_58 rfl nm_X3_ableTo dX1_countHeld_60 (sn_istore dX1_countHeld_63 (Nat.le_of_ble_eq_true rfl) (sn_iconst dX1_countHeld_65 (by decide) (sn_istore dX1_countHeld_66 (Nat.le_of_ble_eq_true rfl) mh_S.G)))))))))))))))))))))))))))))
def q_X1_countHeld_0 (X : mh_X) : mh_PR := s_al 0 (s_gr 1 0 (s_push (.int (0)) (s_cs X yJ7_fill_53178 2 (s_push (.int (0)) (s_is 3 (mh_G X 10))))))
theorem b_X1_countHeld_0 {E : mh_E} {d mc ms : Nat} {Post : Option Value → mh_H → Prop} : mh_S (x_X1_countHeld E d mc ms Post) 0 (q_X1_countHeld_0 (x_X1_countHeld E d mc ms Post)) := sn_aload_n dX1_countHeld_0 rfl (sn_getr clX1 (by decide) w_224 dX1_countHeld_1 (sn_iconst dX1_countHeld_4 (by decide) (sn_cs w_624 w_122 w_60 nm_J7_fill_53178 dX1_countHeld_5 (sn_iconst dX1_countHeld_8 (by decide) (sn_istore_n dX1_countHeld_9 rfl (Nat.le_of_ble_eq_true rfl) mh_S.G)))))
theorem m_X1_countHeld {E : mh_E} {d mc ms : Nat} {args : List Value} {h : mh_H} {Post : Option Value → mh_H → Prop} (lv : List (Option Value)) (hl : lv_args 0 args = mh_al 0 lv) (hs : (lg_sl args).length ≤ 7) (hG : q_X1_countHeld_0 (x_X1_countHeld E d mc ms Post) lv [] h 0 0) : mh_M E d mc ms yX1_countHeld args h Post := mh_M.of w_623 (by decide) (by decide) hl hs (b_X1_countHeld_0 _ _ _ _ _ hG)
theorem dX1_holding_0 : decode cX1_holding 0 = .ok (.iconst 0, 1) := by decide +kernel
theorem dX1_holding_1 : decode cX1_holding 1 = .ok (.istore_n 1, 1) := by decide +kernel
theorem dX1_holding_2 : decode cX1_holding 2 = .ok (.iconst 0, 1) := by decide +kernel
theorem dX1_holding_3 : decode cX1_holding 3 = .ok (.istore_n 2, 1) := by decide +kernel
theorem dX1_holding_4 : decode cX1_holding 4 = .ok (.iload_n 2, 1) := by decide +kernel
theorem dX1_holding_5 : decode cX1_holding 5 = .ok (.iconst 4, 1) := by decide +kernel
theorem dX1_holding_6 : decode cX1_holding 6 = .ok (.if_icmp .ge 31, 3) := by decide +kernel
theorem dX1_holding_9 : decode cX1_holding 9 = .ok (.iload_n 1, 1) := by decide +kernel
theorem dX1_holding_10 : decode cX1_holding 10 = .ok (.aload_n 0, 1) := by decide +kernel
theorem dX1_holding_11 : decode cX1_holding 11 = .ok (.getfield 11, 3) := by decide +kernel
theorem dX1_holding_14 : decode cX1_holding 14 = .ok (.iload_n 2, 1) := by decide +kernel
theorem dX1_holding_15 : decode cX1_holding 15 = .ok (.bipush 64, 2) := by decide +kernel
theorem dX1_holding_17 : decode cX1_holding 17 = .ok (.imul, 1) := by decide +kernel
theorem dX1_holding_18 : decode cX1_holding 18 = .ok (.aload_n 0, 1) := by decide +kernel
theorem dX1_holding_19 : decode cX1_holding 19 = .ok (.getfield 15, 3) := by decide +kernel
theorem dX1_holding_22 : decode cX1_holding 22 = .ok (.iload_n 2, 1) := by decide +kernel
theorem dX1_holding_23 : decode cX1_holding 23 = .ok (.iaload, 1) := by decide +kernel
theorem dX1_holding_24 : decode cX1_holding 24 = .ok (.bipush 63, 2) := by decide +kernel
theorem dX1_holding_26 : decode cX1_holding 26 = .ok (.iand, 1) := by decide +kernel
theorem dX1_holding_27 : decode cX1_holding 27 = .ok (.iadd, 1) := by decide +kernel
theorem dX1_holding_28 : decode cX1_holding 28 = .ok (.iaload, 1) := by decide +kernel
theorem dX1_holding_29 : decode cX1_holding 29 = .ok (.iadd, 1) := by decide +kernel
theorem dX1_holding_30 : decode cX1_holding 30 = .ok (.istore_n 1, 1) := by decide +kernel
theorem dX1_holding_31 : decode cX1_holding 31 = .ok (.iinc 2 1, 3) := by decide +kernel
theorem dX1_holding_34 : decode cX1_holding 34 = .ok (.goto (-30), 3) := by decide +kernel
theorem dX1_holding_37 : decode cX1_holding 37 = .ok (.iload_n 1, 1) := by decide +kernel
theorem dX1_holding_38 : decode cX1_holding 38 = .ok (.ireturn, 1) := by decide +kernel
abbrev x_X1_holding (E : mh_E) (d mc ms : Nat) (Post : Option Value → mh_H → Prop) : mh_X := (E, yX1_holding, cX1_holding, 3, (some .int), d, mc, ms, Post)
def q_X1_holding_4 (X : mh_X) : mh_PR := s_il 2 (s_push (.int (4)) (s_if2 (fun x y => y ≤ x) (s_il 1 (s_iret X)) (s_il 1 (s_al 0 (s_gr 1 0 (s_il 2 (s_push (.int (64)) (s_bin (fun x y => x * y) (s_al 0 (s_gr 1 1 (s_il 2 (s_ald 0 (s_push (.int (63)) (s_bin (fun x y => x &&& y) (s_bin (fun x y => x + y) (s_ald 0 (s_bin (fun x y => x + y) (s_is 1 (s_inc 2 (1) (mh_G X 4))))))))))))))))))))
theorem b_X1_holding_4 {E : mh_E} {d mc ms : Nat} {Post : Option Value → mh_H → Prop} : mh_S (x_X1_holding E d mc ms Post) 4 (q_X1_holding_4 (x_X1_holding E d mc ms Post)) := sn_iload_n dX1_holding_4 rfl (sn_iconst dX1_holding_5 (by decide) (sn_icmp_ge (tgt := 37) dX1_holding_6 (by decide) (sn_iload_n dX1_holding_37 rfl (sn_iret rfl dX1_holding_38)) (sn_iload_n dX1_holding_9 rfl (sn_aload_n dX1_holding_10 rfl (sn_getr clX1 (by decide) w_224 dX1_holding_11 (sn_iload_n dX1_holding_14 rfl (sn_bipush dX1_holding_15 (by decide) (sn_imul dX1_holding_17 (sn_aload_n dX1_holding_18 rfl (sn_getr clX1 (by decide) w_225 dX1_holding_19 (sn_iload_n dX1_holding_22 rfl (sn_iaload dX1_holding_23 (sn_bipush dX1_holding_24 (by decide) (sn_iand dX1_holding_26 (sn_iadd dX1_holding_27 (sn_iaload dX1_holding_28 (sn_iadd dX1_holding_29 (sn_istore_n dX1_holding_30 rfl (Nat.le_of_ble_eq_true rfl) (sn_iinc dX1_holding_31 (by decide) (Nat.le_of_ble_eq_true rfl) (sn_goto (tgt := 4) dX1_holding_34 (by decide) (mh_S.G)))))))))))))))))))))
def q_X1_holding_0 (X : mh_X) : mh_PR := s_push (.int (0)) (s_is 1 (s_push (.int (0)) (s_is 2 (mh_G X 4))))
theorem b_X1_holding_0 {E : mh_E} {d mc ms : Nat} {Post : Option Value → mh_H → Prop} : mh_S (x_X1_holding E d mc ms Post) 0 (q_X1_holding_0 (x_X1_holding E d mc ms Post)) := sn_iconst dX1_holding_0 (by decide) (sn_istore_n dX1_holding_1 rfl (Nat.le_of_ble_eq_true rfl) (sn_iconst dX1_holding_2 (by decide) (sn_istore_n dX1_holding_3 rfl (Nat.le_of_ble_eq_true rfl) mh_S.G)))
theorem m_X1_holding {E : mh_E} {d mc ms : Nat} {args : List Value} {h : mh_H} {Post : Option Value → mh_H → Prop} (lv : List (Option Value)) (hl : lv_args 0 args = mh_al 0 lv) (hs : (lg_sl args).length ≤ 3) (hG : q_X1_holding_0 (x_X1_holding E d mc ms Post) lv [] h 0 0) : mh_M E d mc ms yX1_holding args h Post := mh_M.of w_637 (by decide) (by decide) hl hs (b_X1_holding_0 _ _ _ _ _ hG)
theorem dX1_goOn_0 : decode cX1_goOn 0 = .ok (.iconst 1, 1) := by decide +kernel
theorem dX1_goOn_1 : decode cX1_goOn 1 = .ok (.istore_n 1, 1) := by decide +kernel
theorem dX1_goOn_2 : decode cX1_goOn 2 = .ok (.iconst 5, 1) := by decide +kernel
theorem dX1_goOn_3 : decode cX1_goOn 3 = .ok (.istore_n 2, 1) := by decide +kernel
theorem dX1_goOn_4 : decode cX1_goOn 4 = .ok (.iload_n 2, 1) := by decide +kernel
theorem dX1_goOn_5 : decode cX1_goOn 5 = .ok (.ifCond .lt 84, 3) := by decide +kernel
theorem dX1_goOn_8 : decode cX1_goOn 8 = .ok (.iload_n 1, 1) := by decide +kernel
theorem dX1_goOn_9 : decode cX1_goOn 9 = .ok (.ifCond .eq 80, 3) := by decide +kernel
theorem dX1_goOn_12 : decode cX1_goOn 12 = .ok (.aload_n 0, 1) := by decide +kernel
theorem dX1_goOn_13 : decode cX1_goOn 13 = .ok (.getfield 18, 3) := by decide +kernel
theorem dX1_goOn_16 : decode cX1_goOn 16 = .ok (.iload_n 2, 1) := by decide +kernel
theorem dX1_goOn_17 : decode cX1_goOn 17 = .ok (.iaload, 1) := by decide +kernel
theorem dX1_goOn_18 : decode cX1_goOn 18 = .ok (.invokestatic 75, 3) := by decide +kernel
theorem dX1_goOn_21 : decode cX1_goOn 21 = .ok (.ifCond .eq 68, 3) := by decide +kernel
theorem dX1_goOn_24 : decode cX1_goOn 24 = .ok (.aload_n 0, 1) := by decide +kernel
theorem dX1_goOn_25 : decode cX1_goOn 25 = .ok (.getfield 18, 3) := by decide +kernel
theorem dX1_goOn_28 : decode cX1_goOn 28 = .ok (.iload_n 2, 1) := by decide +kernel
theorem dX1_goOn_29 : decode cX1_goOn 29 = .ok (.iaload, 1) := by decide +kernel
theorem dX1_goOn_30 : decode cX1_goOn 30 = .ok (.iconst 1, 1) := by decide +kernel
theorem dX1_goOn_31 : decode cX1_goOn 31 = .ok (.iadd, 1) := by decide +kernel
theorem dX1_goOn_32 : decode cX1_goOn 32 = .ok (.iconst 4, 1) := by decide +kernel
theorem dX1_goOn_33 : decode cX1_goOn 33 = .ok (.irem, 1) := by decide +kernel
theorem dX1_goOn_34 : decode cX1_goOn 34 = .ok (.istore_n 3, 1) := by decide +kernel
theorem dX1_goOn_35 : decode cX1_goOn 35 = .ok (.aload_n 0, 1) := by decide +kernel
theorem dX1_goOn_36 : decode cX1_goOn 36 = .ok (.getfield 15, 3) := by decide +kernel
theorem dX1_goOn_39 : decode cX1_goOn 39 = .ok (.aload_n 0, 1) := by decide +kernel
theorem dX1_goOn_40 : decode cX1_goOn 40 = .ok (.getfield 18, 3) := by decide +kernel
theorem dX1_goOn_43 : decode cX1_goOn 43 = .ok (.iload_n 2, 1) := by decide +kernel
theorem dX1_goOn_44 : decode cX1_goOn 44 = .ok (.iaload, 1) := by decide +kernel
theorem dX1_goOn_45 : decode cX1_goOn 45 = .ok (.dup2, 1) := by decide +kernel
theorem dX1_goOn_46 : decode cX1_goOn 46 = .ok (.iaload, 1) := by decide +kernel
theorem dX1_goOn_47 : decode cX1_goOn 47 = .ok (.iconst 1, 1) := by decide +kernel
theorem dX1_goOn_48 : decode cX1_goOn 48 = .ok (.iload_n 2, 1) := by decide +kernel
theorem dX1_goOn_49 : decode cX1_goOn 49 = .ok (.ishl, 1) := by decide +kernel
theorem dX1_goOn_50 : decode cX1_goOn 50 = .ok (.iconst (-1), 1) := by decide +kernel
theorem dX1_goOn_51 : decode cX1_goOn 51 = .ok (.ixor, 1) := by decide +kernel
theorem dX1_goOn_52 : decode cX1_goOn 52 = .ok (.iand, 1) := by decide +kernel
theorem dX1_goOn_53 : decode cX1_goOn 53 = .ok (.iastore, 1) := by decide +kernel
theorem dX1_goOn_54 : decode cX1_goOn 54 = .ok (.aload_n 0, 1) := by decide +kernel
theorem dX1_goOn_55 : decode cX1_goOn 55 = .ok (.getfield 15, 3) := by decide +kernel
theorem dX1_goOn_58 : decode cX1_goOn 58 = .ok (.iload_n 3, 1) := by decide +kernel
theorem dX1_goOn_59 : decode cX1_goOn 59 = .ok (.dup2, 1) := by decide +kernel
theorem dX1_goOn_60 : decode cX1_goOn 60 = .ok (.iaload, 1) := by decide +kernel
theorem dX1_goOn_61 : decode cX1_goOn 61 = .ok (.iconst 1, 1) := by decide +kernel
theorem dX1_goOn_62 : decode cX1_goOn 62 = .ok (.iload_n 2, 1) := by decide +kernel
theorem dX1_goOn_63 : decode cX1_goOn 63 = .ok (.ishl, 1) := by decide +kernel
theorem dX1_goOn_64 : decode cX1_goOn 64 = .ok (.ior, 1) := by decide +kernel
theorem dX1_goOn_65 : decode cX1_goOn 65 = .ok (.iastore, 1) := by decide +kernel
theorem dX1_goOn_66 : decode cX1_goOn 66 = .ok (.aload_n 0, 1) := by decide +kernel
theorem dX1_goOn_67 : decode cX1_goOn 67 = .ok (.getfield 18, 3) := by decide +kernel
theorem dX1_goOn_70 : decode cX1_goOn 70 = .ok (.iload_n 2, 1) := by decide +kernel
theorem dX1_goOn_71 : decode cX1_goOn 71 = .ok (.iload_n 3, 1) := by decide +kernel
theorem dX1_goOn_72 : decode cX1_goOn 72 = .ok (.iastore, 1) := by decide +kernel
theorem dX1_goOn_73 : decode cX1_goOn 73 = .ok (.iload_n 3, 1) := by decide +kernel
theorem dX1_goOn_74 : decode cX1_goOn 74 = .ok (.ifCond .ne 7, 3) := by decide +kernel
theorem dX1_goOn_77 : decode cX1_goOn 77 = .ok (.iconst 1, 1) := by decide +kernel
theorem dX1_goOn_78 : decode cX1_goOn 78 = .ok (.goto 4, 3) := by decide +kernel
theorem dX1_goOn_81 : decode cX1_goOn 81 = .ok (.iconst 0, 1) := by decide +kernel
theorem dX1_goOn_82 : decode cX1_goOn 82 = .ok (.istore_n 1, 1) := by decide +kernel
theorem dX1_goOn_83 : decode cX1_goOn 83 = .ok (.iinc 2 (-1), 3) := by decide +kernel
theorem dX1_goOn_86 : decode cX1_goOn 86 = .ok (.goto (-82), 3) := by decide +kernel
theorem dX1_goOn_89 : decode cX1_goOn 89 = .ok (.return_, 1) := by decide +kernel
abbrev x_X1_goOn (E : mh_E) (d mc ms : Nat) (Post : Option Value → mh_H → Prop) : mh_X := (E, yX1_goOn, cX1_goOn, 4, none, d, mc, ms, Post)
def q_X1_goOn_89 (X : mh_X) : mh_PR := s_vret X
theorem b_X1_goOn_89 {E : mh_E} {d mc ms : Nat} {Post : Option Value → mh_H → Prop} : mh_S (x_X1_goOn E d mc ms Post) 89 (q_X1_goOn_89 (x_X1_goOn E d mc ms Post)) := sn_vret rfl dX1_goOn_89
def q_X1_goOn_82 (X : mh_X) : mh_PR := s_is 1 (s_inc 2 (-1) (mh_G X 4))
theorem b_X1_goOn_82 {E : mh_E} {d mc ms : Nat} {Post : Option Value → mh_H → Prop} : mh_S (x_X1_goOn E d mc ms Post) 82 (q_X1_goOn_82 (x_X1_goOn E d mc ms Post)) := sn_istore_n dX1_goOn_82 rfl (Nat.le_of_ble_eq_true rfl) (sn_iinc dX1_goOn_83 (by decide) (Nat.le_of_ble_eq_true rfl) (sn_goto (tgt := 4) dX1_goOn_86 (by decide) (mh_S.G)))
def q_X1_goOn_4 (X : mh_X) : mh_PR := s_il 2 (s_if1 (fun x => x < 0) (q_X1_goOn_89 X) (s_il 1 (s_if1 (fun x => x = 0) (q_X1_goOn_89 X) (s_al 0 (s_gr 1 2 (s_il 2 (s_ald 0 (s_cs X yX9_isSquare 1 (s_if1 (fun x => x = 0) (q_X1_goOn_89 X) (s_al 0 (s_gr 1 2 (s_il 2 (s_ald 0 (s_push (.int (1)) (s_bin (fun x y => x + y) (s_push (.int (4)) (s_div mh_rem (s_is 3 (s_al 0 (s_gr 1 1 (s_al 0 (s_gr 1 2 (s_il 2 (s_ald 0 (s_dup2 (s_ald 0 (s_push (.int (1)) (s_il 2 (s_bin mh_shl (s_push (.int (-1)) (s_bin (fun x y => x ^^^ y) (s_bin (fun x y => x &&& y) (s_ast 0 (fun x => x) (s_al 0 (s_gr 1 1 (s_il 3 (s_dup2 (s_ald 0 (s_push (.int (1)) (s_il 2 (s_bin mh_shl (s_bin (fun x y => x ||| y) (s_ast 0 (fun x => x) (s_al 0 (s_gr 1 2 (s_il 2 (s_il 3 (s_ast 0 (fun x => x) (s_il 3 (s_if1 (fun x => ¬ x = 0) (s_push (.int (0)) (q_X1_goOn_82 X)) (s_push (.int (1)) (q_X1_goOn_82 X))))))))))))))))))))))))))))))))))))))))))))))))))))
theorem b_X1_goOn_4 {E : mh_E} {d mc ms : Nat} {Post : Option Value → mh_H → Prop} : mh_S (x_X1_goOn E d mc ms Post) 4 (q_X1_goOn_4 (x_X1_goOn E d mc ms Post)) := sn_iload_n dX1_goOn_4 rfl (sn_if_lt (tgt := 89) dX1_goOn_5 (by decide) (b_X1_goOn_89) (sn_iload_n dX1_goOn_8 rfl (sn_if_eq (tgt := 89) dX1_goOn_9 (by decide) (b_X1_goOn_89) (sn_aload_n dX1_goOn_12 rfl (sn_getr clX1 (by decide) w_226 dX1_goOn_13 (sn_iload_n dX1_goOn_16 rfl (sn_iaload dX1_goOn_17 (sn_csN w_625 w_379 w_56 nm_X9_isSquare dX1_goOn_18 (sn_if_eq (tgt := 89) dX1_goOn_21 (by decide) (b_X1_goOn_89) (sn_aload_n dX1_goOn_24 rfl (sn_getr clX1 (by decide) w_226 dX1_goOn_25 (sn_iload_n dX1_goOn_28 rfl (sn_iaload dX1_goOn_29 (sn_iconst dX1_goOn_30 (by decide) (sn_iadd dX1_goOn_31 (sn_iconst dX1_goOn_32 (by decide) (sn_irem dX1_goOn_33 (sn_istore_n dX1_goOn_34 rfl (Nat.le_of_ble_eq_true rfl) (sn_aload_n dX1_goOn_35 rfl (sn_getr clX1 (by decide) w_225 dX1_goOn_36 (sn_aload_n dX1_goOn_39 rfl (sn_getr clX1 (by decide) w_226 dX1_goOn_40 (sn_iload_n dX1_goOn_43 rfl (sn_iaload dX1_goOn_44 (sn_dup2 dX1_goOn_45 (sn_iaload dX1_goOn_46 (sn_iconst dX1_goOn_47 (by decide) (sn_iload_n dX1_goOn_48 rfl (sn_ishl dX1_goOn_49 (sn_iconst dX1_goOn_50 (by decide) (sn_ixor dX1_goOn_51 (sn_iand dX1_goOn_52 (sn_iastore dX1_goOn_53 (sn_aload_n dX1_goOn_54 rfl (sn_getr clX1 (by decide) w_225 dX1_goOn_55 (sn_iload_n dX1_goOn_58 rfl (sn_dup2 dX1_goOn_59 (sn_iaload dX1_goOn_60 (sn_iconst dX1_goOn_61 (by decide) (sn_iload_n dX1_goOn_62 rfl (sn_ishl dX1_goOn_63 (sn_ior dX1_goOn_64 (sn_iastore dX1_goOn_65 (sn_aload_n dX1_goOn_66 rfl (sn_getr clX1 (by decide) w_226 dX1_goOn_67 (sn_iload_n dX1_goOn_70 rfl (sn_iload_n dX1_goOn_71 rfl (sn_iastore dX1_goOn_72 (sn_iload_n dX1_goOn_73 rfl (sn_if_ne (tgt := 81) dX1_goOn_74 (by decide) (sn_iconst dX1_goOn_81 (by decide) b_X1_goOn_82) (sn_iconst dX1_goOn_77 (by decide) (sn_goto (tgt := 82) dX1_goOn_78 (by decide) (b_X1_goOn_82)))))))))))))))))))))))))))))))))))))))))))))))))))))
def q_X1_goOn_0 (X : mh_X) : mh_PR := s_push (.int (1)) (s_is 1 (s_push (.int (5)) (s_is 2 (mh_G X 4))))
theorem b_X1_goOn_0 {E : mh_E} {d mc ms : Nat} {Post : Option Value → mh_H → Prop} : mh_S (x_X1_goOn E d mc ms Post) 0 (q_X1_goOn_0 (x_X1_goOn E d mc ms Post)) := sn_iconst dX1_goOn_0 (by decide) (sn_istore_n dX1_goOn_1 rfl (Nat.le_of_ble_eq_true rfl) (sn_iconst dX1_goOn_2 (by decide) (sn_istore_n dX1_goOn_3 rfl (Nat.le_of_ble_eq_true rfl) mh_S.G)))
theorem m_X1_goOn {E : mh_E} {d mc ms : Nat} {args : List Value} {h : mh_H} {Post : Option Value → mh_H → Prop} (lv : List (Option Value)) (hl : lv_args 0 args = mh_al 0 lv) (hs : (lg_sl args).length ≤ 4) (hG : q_X1_goOn_0 (x_X1_goOn E d mc ms Post) lv [] h 0 0) : mh_M E d mc ms yX1_goOn args h Post := mh_M.of w_644 (by decide) (by decide) hl hs (b_X1_goOn_0 _ _ _ _ _ hG)
