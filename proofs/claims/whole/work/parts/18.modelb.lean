theorem dX10_of_0 : decode cX10_of 0 = .ok (.aload_n 0, 1) := by decide +kernel
theorem dX10_of_1 : decode cX10_of 1 = .ok (.getfield 9, 3) := by decide +kernel
theorem dX10_of_4 : decode cX10_of 4 = .ok (.bipush 20, 2) := by decide +kernel
theorem dX10_of_6 : decode cX10_of 6 = .ok (.bipush 6, 2) := by decide +kernel
theorem dX10_of_8 : decode cX10_of 8 = .ok (.iload_n 1, 1) := by decide +kernel
theorem dX10_of_9 : decode cX10_of 9 = .ok (.imul, 1) := by decide +kernel
theorem dX10_of_10 : decode cX10_of 10 = .ok (.iadd, 1) := by decide +kernel
theorem dX10_of_11 : decode cX10_of 11 = .ok (.iload_n 2, 1) := by decide +kernel
theorem dX10_of_12 : decode cX10_of 12 = .ok (.iadd, 1) := by decide +kernel
theorem dX10_of_13 : decode cX10_of 13 = .ok (.iaload, 1) := by decide +kernel
theorem dX10_of_14 : decode cX10_of 14 = .ok (.ireturn, 1) := by decide +kernel
abbrev x_X10_of (E : mh_E) (d mc ms : Nat) (Post : Option Value → mh_H → Prop) : mh_X := (E, yX10_of, cX10_of, 3, (some .int), d, mc, ms, Post)
def q_X10_of_0 (X : mh_X) : mh_PR := s_al 0 (s_gr 10 0 (s_push (.int (20)) (s_push (.int (6)) (s_il 1 (s_bin (fun x y => x * y) (s_bin (fun x y => x + y) (s_il 2 (s_bin (fun x y => x + y) (s_ald 0 (s_iret X))))))))))
theorem b_X10_of_0 {E : mh_E} {d mc ms : Nat} {Post : Option Value → mh_H → Prop} : mh_S (x_X10_of E d mc ms Post) 0 (q_X10_of_0 (x_X10_of E d mc ms Post)) := sn_aload_n dX10_of_0 rfl (sn_getr clX10 (by decide) w_1100 dX10_of_1 (sn_bipush dX10_of_4 (by decide) (sn_bipush dX10_of_6 (by decide) (sn_iload_n dX10_of_8 rfl (sn_imul dX10_of_9 (sn_iadd dX10_of_10 (sn_iload_n dX10_of_11 rfl (sn_iadd dX10_of_12 (sn_iaload dX10_of_13 (sn_iret rfl dX10_of_14))))))))))
theorem m_X10_of {E : mh_E} {d mc ms : Nat} {args : List Value} {h : mh_H} {Post : Option Value → mh_H → Prop} (lv : List (Option Value)) (hl : lv_args 0 args = mh_al 0 lv) (hs : (lg_sl args).length ≤ 3) (hG : q_X10_of_0 (x_X10_of E d mc ms Post) lv [] h 0 0) : mh_M E d mc ms yX10_of args h Post := mh_M.of w_1237 (by decide) (by decide) hl hs (b_X10_of_0 _ _ _ _ _ hG)
theorem dX10_put_0 : decode cX10_put 0 = .ok (.aload_n 0, 1) := by decide +kernel
theorem dX10_put_1 : decode cX10_put 1 = .ok (.getfield 9, 3) := by decide +kernel
theorem dX10_put_4 : decode cX10_put 4 = .ok (.bipush 20, 2) := by decide +kernel
theorem dX10_put_6 : decode cX10_put 6 = .ok (.bipush 6, 2) := by decide +kernel
theorem dX10_put_8 : decode cX10_put 8 = .ok (.iload_n 1, 1) := by decide +kernel
theorem dX10_put_9 : decode cX10_put 9 = .ok (.imul, 1) := by decide +kernel
theorem dX10_put_10 : decode cX10_put 10 = .ok (.iadd, 1) := by decide +kernel
theorem dX10_put_11 : decode cX10_put 11 = .ok (.iload_n 2, 1) := by decide +kernel
theorem dX10_put_12 : decode cX10_put 12 = .ok (.iadd, 1) := by decide +kernel
theorem dX10_put_13 : decode cX10_put 13 = .ok (.iload_n 3, 1) := by decide +kernel
theorem dX10_put_14 : decode cX10_put 14 = .ok (.iastore, 1) := by decide +kernel
theorem dX10_put_15 : decode cX10_put 15 = .ok (.return_, 1) := by decide +kernel
abbrev x_X10_put (E : mh_E) (d mc ms : Nat) (Post : Option Value → mh_H → Prop) : mh_X := (E, yX10_put, cX10_put, 4, none, d, mc, ms, Post)
def q_X10_put_0 (X : mh_X) : mh_PR := s_al 0 (s_gr 10 0 (s_push (.int (20)) (s_push (.int (6)) (s_il 1 (s_bin (fun x y => x * y) (s_bin (fun x y => x + y) (s_il 2 (s_bin (fun x y => x + y) (s_il 3 (s_ast 0 (fun x => x) (s_vret X)))))))))))
theorem b_X10_put_0 {E : mh_E} {d mc ms : Nat} {Post : Option Value → mh_H → Prop} : mh_S (x_X10_put E d mc ms Post) 0 (q_X10_put_0 (x_X10_put E d mc ms Post)) := sn_aload_n dX10_put_0 rfl (sn_getr clX10 (by decide) w_1100 dX10_put_1 (sn_bipush dX10_put_4 (by decide) (sn_bipush dX10_put_6 (by decide) (sn_iload_n dX10_put_8 rfl (sn_imul dX10_put_9 (sn_iadd dX10_put_10 (sn_iload_n dX10_put_11 rfl (sn_iadd dX10_put_12 (sn_iload_n dX10_put_13 rfl (sn_iastore dX10_put_14 (sn_vret rfl dX10_put_15)))))))))))
theorem m_X10_put {E : mh_E} {d mc ms : Nat} {args : List Value} {h : mh_H} {Post : Option Value → mh_H → Prop} (lv : List (Option Value)) (hl : lv_args 0 args = mh_al 0 lv) (hs : (lg_sl args).length ≤ 4) (hG : q_X10_put_0 (x_X10_put E d mc ms Post) lv [] h 0 0) : mh_M E d mc ms yX10_put args h Post := mh_M.of w_1225 (by decide) (by decide) hl hs (b_X10_put_0 _ _ _ _ _ hG)
theorem dX10_rankOf_0 : decode cX10_rankOf 0 = .ok (.aload_n 0, 1) := by decide +kernel
theorem dX10_rankOf_1 : decode cX10_rankOf 1 = .ok (.getfield 9, 3) := by decide +kernel
theorem dX10_rankOf_4 : decode cX10_rankOf 4 = .ok (.bipush 8, 2) := by decide +kernel
theorem dX10_rankOf_6 : decode cX10_rankOf 6 = .ok (.iconst 2, 1) := by decide +kernel
theorem dX10_rankOf_7 : decode cX10_rankOf 7 = .ok (.iload_n 1, 1) := by decide +kernel
theorem dX10_rankOf_8 : decode cX10_rankOf 8 = .ok (.imul, 1) := by decide +kernel
theorem dX10_rankOf_9 : decode cX10_rankOf 9 = .ok (.iadd, 1) := by decide +kernel
theorem dX10_rankOf_10 : decode cX10_rankOf 10 = .ok (.iconst 1, 1) := by decide +kernel
theorem dX10_rankOf_11 : decode cX10_rankOf 11 = .ok (.iadd, 1) := by decide +kernel
theorem dX10_rankOf_12 : decode cX10_rankOf 12 = .ok (.iaload, 1) := by decide +kernel
theorem dX10_rankOf_13 : decode cX10_rankOf 13 = .ok (.ireturn, 1) := by decide +kernel
abbrev x_X10_rankOf (E : mh_E) (d mc ms : Nat) (Post : Option Value → mh_H → Prop) : mh_X := (E, yX10_rankOf, cX10_rankOf, 2, (some .int), d, mc, ms, Post)
def q_X10_rankOf_0 (X : mh_X) : mh_PR := s_al 0 (s_gr 10 0 (s_push (.int (8)) (s_push (.int (2)) (s_il 1 (s_bin (fun x y => x * y) (s_bin (fun x y => x + y) (s_push (.int (1)) (s_bin (fun x y => x + y) (s_ald 0 (s_iret X))))))))))
theorem b_X10_rankOf_0 {E : mh_E} {d mc ms : Nat} {Post : Option Value → mh_H → Prop} : mh_S (x_X10_rankOf E d mc ms Post) 0 (q_X10_rankOf_0 (x_X10_rankOf E d mc ms Post)) := sn_aload_n dX10_rankOf_0 rfl (sn_getr clX10 (by decide) w_1100 dX10_rankOf_1 (sn_bipush dX10_rankOf_4 (by decide) (sn_iconst dX10_rankOf_6 (by decide) (sn_iload_n dX10_rankOf_7 rfl (sn_imul dX10_rankOf_8 (sn_iadd dX10_rankOf_9 (sn_iconst dX10_rankOf_10 (by decide) (sn_iadd dX10_rankOf_11 (sn_iaload dX10_rankOf_12 (sn_iret rfl dX10_rankOf_13))))))))))
theorem m_X10_rankOf {E : mh_E} {d mc ms : Nat} {args : List Value} {h : mh_H} {Post : Option Value → mh_H → Prop} (lv : List (Option Value)) (hl : lv_args 0 args = mh_al 0 lv) (hs : (lg_sl args).length ≤ 2) (hG : q_X10_rankOf_0 (x_X10_rankOf E d mc ms Post) lv [] h 0 0) : mh_M E d mc ms yX10_rankOf args h Post := mh_M.of w_1250 (by decide) (by decide) hl hs (b_X10_rankOf_0 _ _ _ _ _ hG)
theorem dX10_manyAt_0 : decode cX10_manyAt 0 = .ok (.iconst 0, 1) := by decide +kernel
theorem dX10_manyAt_1 : decode cX10_manyAt 1 = .ok (.istore 4, 2) := by decide +kernel
theorem dX10_manyAt_3 : decode cX10_manyAt 3 = .ok (.iconst 0, 1) := by decide +kernel
theorem dX10_manyAt_4 : decode cX10_manyAt 4 = .ok (.istore 5, 2) := by decide +kernel
theorem dX10_manyAt_6 : decode cX10_manyAt 6 = .ok (.iload 5, 2) := by decide +kernel
theorem dX10_manyAt_8 : decode cX10_manyAt 8 = .ok (.bipush 6, 2) := by decide +kernel
theorem dX10_manyAt_10 : decode cX10_manyAt 10 = .ok (.if_icmp .ge 45, 3) := by decide +kernel
theorem dX10_manyAt_13 : decode cX10_manyAt 13 = .ok (.iload 4, 2) := by decide +kernel
theorem dX10_manyAt_15 : decode cX10_manyAt 15 = .ok (.iload 5, 2) := by decide +kernel
theorem dX10_manyAt_17 : decode cX10_manyAt 17 = .ok (.iload_n 3, 1) := by decide +kernel
theorem dX10_manyAt_18 : decode cX10_manyAt 18 = .ok (.if_icmp .eq 27, 3) := by decide +kernel
theorem dX10_manyAt_21 : decode cX10_manyAt 21 = .ok (.aload_n 0, 1) := by decide +kernel
theorem dX10_manyAt_22 : decode cX10_manyAt 22 = .ok (.iload 5, 2) := by decide +kernel
theorem dX10_manyAt_24 : decode cX10_manyAt 24 = .ok (.invokevirtual 97, 3) := by decide +kernel
theorem dX10_manyAt_27 : decode cX10_manyAt 27 = .ok (.iload_n 1, 1) := by decide +kernel
theorem dX10_manyAt_28 : decode cX10_manyAt 28 = .ok (.if_icmp .ne 17, 3) := by decide +kernel
theorem dX10_manyAt_31 : decode cX10_manyAt 31 = .ok (.aload_n 0, 1) := by decide +kernel
theorem dX10_manyAt_32 : decode cX10_manyAt 32 = .ok (.iload 5, 2) := by decide +kernel
theorem dX10_manyAt_34 : decode cX10_manyAt 34 = .ok (.invokevirtual 101, 3) := by decide +kernel
theorem dX10_manyAt_37 : decode cX10_manyAt 37 = .ok (.iload_n 2, 1) := by decide +kernel
theorem dX10_manyAt_38 : decode cX10_manyAt 38 = .ok (.if_icmp .lt 7, 3) := by decide +kernel
theorem dX10_manyAt_41 : decode cX10_manyAt 41 = .ok (.iconst 1, 1) := by decide +kernel
theorem dX10_manyAt_42 : decode cX10_manyAt 42 = .ok (.goto 4, 3) := by decide +kernel
theorem dX10_manyAt_45 : decode cX10_manyAt 45 = .ok (.iconst 0, 1) := by decide +kernel
theorem dX10_manyAt_46 : decode cX10_manyAt 46 = .ok (.iadd, 1) := by decide +kernel
theorem dX10_manyAt_47 : decode cX10_manyAt 47 = .ok (.istore 4, 2) := by decide +kernel
theorem dX10_manyAt_49 : decode cX10_manyAt 49 = .ok (.iinc 5 1, 3) := by decide +kernel
theorem dX10_manyAt_52 : decode cX10_manyAt 52 = .ok (.goto (-46), 3) := by decide +kernel
theorem dX10_manyAt_55 : decode cX10_manyAt 55 = .ok (.iload 4, 2) := by decide +kernel
theorem dX10_manyAt_57 : decode cX10_manyAt 57 = .ok (.ireturn, 1) := by decide +kernel
abbrev x_X10_manyAt (E : mh_E) (d mc ms : Nat) (Post : Option Value → mh_H → Prop) : mh_X := (E, yX10_manyAt, cX10_manyAt, 6, (some .int), d, mc, ms, Post)
def q_X10_manyAt_46 (X : mh_X) : mh_PR := s_bin (fun x y => x + y) (s_is 4 (s_inc 5 (1) (mh_G X 6)))
theorem b_X10_manyAt_46 {E : mh_E} {d mc ms : Nat} {Post : Option Value → mh_H → Prop} : mh_S (x_X10_manyAt E d mc ms Post) 46 (q_X10_manyAt_46 (x_X10_manyAt E d mc ms Post)) := sn_iadd dX10_manyAt_46 (sn_istore dX10_manyAt_47 (Nat.le_of_ble_eq_true rfl) (sn_iinc dX10_manyAt_49 (by decide) (Nat.le_of_ble_eq_true rfl) (sn_goto (tgt := 6) dX10_manyAt_52 (by decide) (mh_S.G))))
def q_X10_manyAt_45 (X : mh_X) : mh_PR := s_push (.int (0)) (q_X10_manyAt_46 X)
theorem b_X10_manyAt_45 {E : mh_E} {d mc ms : Nat} {Post : Option Value → mh_H → Prop} : mh_S (x_X10_manyAt E d mc ms Post) 45 (q_X10_manyAt_45 (x_X10_manyAt E d mc ms Post)) := sn_iconst dX10_manyAt_45 (by decide) b_X10_manyAt_46
def q_X10_manyAt_6 (X : mh_X) : mh_PR := s_il 5 (s_push (.int (6)) (s_if2 (fun x y => y ≤ x) (s_il 4 (s_iret X)) (s_il 4 (s_il 5 (s_il 3 (s_if2 (fun x y => x = y) (q_X10_manyAt_45 X) (s_al 0 (s_il 5 (s_cv X yX10_squareOf 10 1 (s_il 1 (s_if2 (fun x y => ¬ x = y) (q_X10_manyAt_45 X) (s_al 0 (s_il 5 (s_cv X yX10_rankOf 10 1 (s_il 2 (s_if2 (fun x y => x < y) (q_X10_manyAt_45 X) (s_push (.int (1)) (q_X10_manyAt_46 X))))))))))))))))))
theorem b_X10_manyAt_6 {E : mh_E} {d mc ms : Nat} {Post : Option Value → mh_H → Prop} : mh_S (x_X10_manyAt E d mc ms Post) 6 (q_X10_manyAt_6 (x_X10_manyAt E d mc ms Post)) := sn_iload dX10_manyAt_6 (sn_bipush dX10_manyAt_8 (by decide) (sn_icmp_ge (tgt := 55) dX10_manyAt_10 (by decide) (sn_iload dX10_manyAt_55 (sn_iret rfl dX10_manyAt_57)) (sn_iload dX10_manyAt_13 (sn_iload dX10_manyAt_15 (sn_iload_n dX10_manyAt_17 rfl (sn_icmp_eq (tgt := 45) dX10_manyAt_18 (by decide) (b_X10_manyAt_45) (sn_aload_n dX10_manyAt_21 rfl (sn_iload dX10_manyAt_22 (sn_cv w_1243 w_1245 w_26 w_66 rfl nm_X10_squareOf dX10_manyAt_24 (sn_iload_n dX10_manyAt_27 rfl (sn_icmp_ne (tgt := 45) dX10_manyAt_28 (by decide) (b_X10_manyAt_45) (sn_aload_n dX10_manyAt_31 rfl (sn_iload dX10_manyAt_32 (sn_cv w_1247 w_1249 w_27 w_66 rfl nm_X10_rankOf dX10_manyAt_34 (sn_iload_n dX10_manyAt_37 rfl (sn_icmp_lt (tgt := 45) dX10_manyAt_38 (by decide) (b_X10_manyAt_45) (sn_iconst dX10_manyAt_41 (by decide) (sn_goto (tgt := 46) dX10_manyAt_42 (by decide) (b_X10_manyAt_46)))))))))))))))))))
def q_X10_manyAt_0 (X : mh_X) : mh_PR := s_push (.int (0)) (s_is 4 (s_push (.int (0)) (s_is 5 (mh_G X 6))))
theorem b_X10_manyAt_0 {E : mh_E} {d mc ms : Nat} {Post : Option Value → mh_H → Prop} : mh_S (x_X10_manyAt E d mc ms Post) 0 (q_X10_manyAt_0 (x_X10_manyAt E d mc ms Post)) := sn_iconst dX10_manyAt_0 (by decide) (sn_istore dX10_manyAt_1 (Nat.le_of_ble_eq_true rfl) (sn_iconst dX10_manyAt_3 (by decide) (sn_istore dX10_manyAt_4 (Nat.le_of_ble_eq_true rfl) mh_S.G)))
theorem m_X10_manyAt {E : mh_E} {d mc ms : Nat} {args : List Value} {h : mh_H} {Post : Option Value → mh_H → Prop} (lv : List (Option Value)) (hl : lv_args 0 args = mh_al 0 lv) (hs : (lg_sl args).length ≤ 6) (hG : q_X10_manyAt_0 (x_X10_manyAt E d mc ms Post) lv [] h 0 0) : mh_M E d mc ms yX10_manyAt args h Post := mh_M.of w_1254 (by decide) (by decide) hl hs (b_X10_manyAt_0 _ _ _ _ _ hG)
theorem dX10_person_0 : decode cX10_person 0 = .ok (.iload_n 1, 1) := by decide +kernel
theorem dX10_person_1 : decode cX10_person 1 = .ok (.invokestatic 144, 3) := by decide +kernel
theorem dX10_person_4 : decode cX10_person 4 = .ok (.ifCond .eq 28, 3) := by decide +kernel
theorem dX10_person_7 : decode cX10_person 7 = .ok (.iload_n 2, 1) := by decide +kernel
theorem dX10_person_8 : decode cX10_person 8 = .ok (.iconst 0, 1) := by decide +kernel
theorem dX10_person_9 : decode cX10_person 9 = .ok (.iconst 1, 1) := by decide +kernel
theorem dX10_person_10 : decode cX10_person 10 = .ok (.invokestatic 79, 3) := by decide +kernel
theorem dX10_person_13 : decode cX10_person 13 = .ok (.ifCond .eq 19, 3) := by decide +kernel
theorem dX10_person_16 : decode cX10_person 16 = .ok (.aload_n 0, 1) := by decide +kernel
theorem dX10_person_17 : decode cX10_person 17 = .ok (.getfield 9, 3) := by decide +kernel
theorem dX10_person_20 : decode cX10_person 20 = .ok (.bipush 8, 2) := by decide +kernel
theorem dX10_person_22 : decode cX10_person 22 = .ok (.iconst 2, 1) := by decide +kernel
theorem dX10_person_23 : decode cX10_person 23 = .ok (.iload_n 1, 1) := by decide +kernel
theorem dX10_person_24 : decode cX10_person 24 = .ok (.imul, 1) := by decide +kernel
theorem dX10_person_25 : decode cX10_person 25 = .ok (.iadd, 1) := by decide +kernel
theorem dX10_person_26 : decode cX10_person 26 = .ok (.iload_n 2, 1) := by decide +kernel
theorem dX10_person_27 : decode cX10_person 27 = .ok (.iadd, 1) := by decide +kernel
theorem dX10_person_28 : decode cX10_person 28 = .ok (.iaload, 1) := by decide +kernel
theorem dX10_person_29 : decode cX10_person 29 = .ok (.goto 5, 3) := by decide +kernel
theorem dX10_person_32 : decode cX10_person 32 = .ok (.ldc 91, 2) := by decide +kernel
theorem dX10_person_34 : decode cX10_person 34 = .ok (.ireturn, 1) := by decide +kernel
abbrev x_X10_person (E : mh_E) (d mc ms : Nat) (Post : Option Value → mh_H → Prop) : mh_X := (E, yX10_person, cX10_person, 3, (some .int), d, mc, ms, Post)
def q_X10_person_34 (X : mh_X) : mh_PR := s_iret X
theorem b_X10_person_34 {E : mh_E} {d mc ms : Nat} {Post : Option Value → mh_H → Prop} : mh_S (x_X10_person E d mc ms Post) 34 (q_X10_person_34 (x_X10_person E d mc ms Post)) := sn_iret rfl dX10_person_34
def q_X10_person_32 (X : mh_X) : mh_PR := s_push (.int (-1000000001)) (q_X10_person_34 X)
theorem b_X10_person_32 {E : mh_E} {d mc ms : Nat} {Post : Option Value → mh_H → Prop} : mh_S (x_X10_person E d mc ms Post) 32 (q_X10_person_32 (x_X10_person E d mc ms Post)) := sn_ldc dX10_person_32 w_1216 b_X10_person_34
def q_X10_person_0 (X : mh_X) : mh_PR := s_il 1 (s_cs X yX10_isPerson 1 (s_if1 (fun x => x = 0) (q_X10_person_32 X) (s_il 2 (s_push (.int (0)) (s_push (.int (1)) (s_cs X yX10_in 3 (s_if1 (fun x => x = 0) (q_X10_person_32 X) (s_al 0 (s_gr 10 0 (s_push (.int (8)) (s_push (.int (2)) (s_il 1 (s_bin (fun x y => x * y) (s_bin (fun x y => x + y) (s_il 2 (s_bin (fun x y => x + y) (s_ald 0 (q_X10_person_34 X))))))))))))))))))
theorem b_X10_person_0 {E : mh_E} {d mc ms : Nat} {Post : Option Value → mh_H → Prop} : mh_S (x_X10_person E d mc ms Post) 0 (q_X10_person_0 (x_X10_person E d mc ms Post)) := sn_iload_n dX10_person_0 rfl (sn_cs w_1307 w_1308 w_66 nm_X10_isPerson dX10_person_1 (sn_if_eq (tgt := 32) dX10_person_4 (by decide) (b_X10_person_32) (sn_iload_n dX10_person_7 rfl (sn_iconst dX10_person_8 (by decide) (sn_iconst dX10_person_9 (by decide) (sn_cs w_1210 w_1211 w_66 nm_X10_in dX10_person_10 (sn_if_eq (tgt := 32) dX10_person_13 (by decide) (b_X10_person_32) (sn_aload_n dX10_person_16 rfl (sn_getr clX10 (by decide) w_1100 dX10_person_17 (sn_bipush dX10_person_20 (by decide) (sn_iconst dX10_person_22 (by decide) (sn_iload_n dX10_person_23 rfl (sn_imul dX10_person_24 (sn_iadd dX10_person_25 (sn_iload_n dX10_person_26 rfl (sn_iadd dX10_person_27 (sn_iaload dX10_person_28 (sn_goto (tgt := 34) dX10_person_29 (by decide) (b_X10_person_34)))))))))))))))))))
theorem m_X10_person {E : mh_E} {d mc ms : Nat} {args : List Value} {h : mh_H} {Post : Option Value → mh_H → Prop} (lv : List (Option Value)) (hl : lv_args 0 args = mh_al 0 lv) (hs : (lg_sl args).length ≤ 3) (hG : q_X10_person_0 (x_X10_person E d mc ms Post) lv [] h 0 0) : mh_M E d mc ms yX10_person args h Post := mh_M.of w_1306 (by decide) (by decide) hl hs (b_X10_person_0 _ _ _ _ _ hG)
theorem dX10_rule_0 : decode cX10_rule 0 = .ok (.iload_n 1, 1) := by decide +kernel
theorem dX10_rule_1 : decode cX10_rule 1 = .ok (.iconst 0, 1) := by decide +kernel
theorem dX10_rule_2 : decode cX10_rule 2 = .ok (.iconst 1, 1) := by decide +kernel
theorem dX10_rule_3 : decode cX10_rule 3 = .ok (.invokestatic 79, 3) := by decide +kernel
theorem dX10_rule_6 : decode cX10_rule 6 = .ok (.ifCond .eq 24, 3) := by decide +kernel
theorem dX10_rule_9 : decode cX10_rule 9 = .ok (.iload_n 2, 1) := by decide +kernel
theorem dX10_rule_10 : decode cX10_rule 10 = .ok (.iconst 0, 1) := by decide +kernel
theorem dX10_rule_11 : decode cX10_rule 11 = .ok (.bipush 100, 2) := by decide +kernel
theorem dX10_rule_13 : decode cX10_rule 13 = .ok (.invokestatic 79, 3) := by decide +kernel
theorem dX10_rule_16 : decode cX10_rule 16 = .ok (.ifCond .eq 14, 3) := by decide +kernel
theorem dX10_rule_19 : decode cX10_rule 19 = .ok (.aload_n 0, 1) := by decide +kernel
theorem dX10_rule_20 : decode cX10_rule 20 = .ok (.iconst 3, 1) := by decide +kernel
theorem dX10_rule_21 : decode cX10_rule 21 = .ok (.iload_n 1, 1) := by decide +kernel
theorem dX10_rule_22 : decode cX10_rule 22 = .ok (.iadd, 1) := by decide +kernel
theorem dX10_rule_23 : decode cX10_rule 23 = .ok (.iload_n 2, 1) := by decide +kernel
theorem dX10_rule_24 : decode cX10_rule 24 = .ok (.invokevirtual 140, 3) := by decide +kernel
theorem dX10_rule_27 : decode cX10_rule 27 = .ok (.goto 5, 3) := by decide +kernel
theorem dX10_rule_30 : decode cX10_rule 30 = .ok (.ldc 91, 2) := by decide +kernel
theorem dX10_rule_32 : decode cX10_rule 32 = .ok (.ireturn, 1) := by decide +kernel
abbrev x_X10_rule (E : mh_E) (d mc ms : Nat) (Post : Option Value → mh_H → Prop) : mh_X := (E, yX10_rule, cX10_rule, 3, (some .int), d, mc, ms, Post)
def q_X10_rule_32 (X : mh_X) : mh_PR := s_iret X
theorem b_X10_rule_32 {E : mh_E} {d mc ms : Nat} {Post : Option Value → mh_H → Prop} : mh_S (x_X10_rule E d mc ms Post) 32 (q_X10_rule_32 (x_X10_rule E d mc ms Post)) := sn_iret rfl dX10_rule_32
def q_X10_rule_30 (X : mh_X) : mh_PR := s_push (.int (-1000000001)) (q_X10_rule_32 X)
theorem b_X10_rule_30 {E : mh_E} {d mc ms : Nat} {Post : Option Value → mh_H → Prop} : mh_S (x_X10_rule E d mc ms Post) 30 (q_X10_rule_30 (x_X10_rule E d mc ms Post)) := sn_ldc dX10_rule_30 w_1216 b_X10_rule_32
def q_X10_rule_0 (X : mh_X) : mh_PR := s_il 1 (s_push (.int (0)) (s_push (.int (1)) (s_cs X yX10_in 3 (s_if1 (fun x => x = 0) (q_X10_rule_30 X) (s_il 2 (s_push (.int (0)) (s_push (.int (100)) (s_cs X yX10_in 3 (s_if1 (fun x => x = 0) (q_X10_rule_30 X) (s_al 0 (s_push (.int (3)) (s_il 1 (s_bin (fun x y => x + y) (s_il 2 (s_cv X yX10_swaps 10 2 (q_X10_rule_32 X))))))))))))))))
theorem b_X10_rule_0 {E : mh_E} {d mc ms : Nat} {Post : Option Value → mh_H → Prop} : mh_S (x_X10_rule E d mc ms Post) 0 (q_X10_rule_0 (x_X10_rule E d mc ms Post)) := sn_iload_n dX10_rule_0 rfl (sn_iconst dX10_rule_1 (by decide) (sn_iconst dX10_rule_2 (by decide) (sn_cs w_1210 w_1211 w_66 nm_X10_in dX10_rule_3 (sn_if_eq (tgt := 30) dX10_rule_6 (by decide) (b_X10_rule_30) (sn_iload_n dX10_rule_9 rfl (sn_iconst dX10_rule_10 (by decide) (sn_bipush dX10_rule_11 (by decide) (sn_cs w_1210 w_1211 w_66 nm_X10_in dX10_rule_13 (sn_if_eq (tgt := 30) dX10_rule_16 (by decide) (b_X10_rule_30) (sn_aload_n dX10_rule_19 rfl (sn_iconst dX10_rule_20 (by decide) (sn_iload_n dX10_rule_21 rfl (sn_iadd dX10_rule_22 (sn_iload_n dX10_rule_23 rfl (sn_cv w_1290 w_1292 w_33 w_66 rfl nm_X10_swaps dX10_rule_24 (sn_goto (tgt := 32) dX10_rule_27 (by decide) (b_X10_rule_32)))))))))))))))))
theorem m_X10_rule {E : mh_E} {d mc ms : Nat} {args : List Value} {h : mh_H} {Post : Option Value → mh_H → Prop} (lv : List (Option Value)) (hl : lv_args 0 args = mh_al 0 lv) (hs : (lg_sl args).length ≤ 3) (hG : q_X10_rule_0 (x_X10_rule E d mc ms Post) lv [] h 0 0) : mh_M E d mc ms yX10_rule args h Post := mh_M.of w_1321 (by decide) (by decide) hl hs (b_X10_rule_0 _ _ _ _ _ hG)
theorem dX10_passes_0 : decode cX10_passes 0 = .ok (.aload_n 0, 1) := by decide +kernel
theorem dX10_passes_1 : decode cX10_passes 1 = .ok (.getfield 9, 3) := by decide +kernel
theorem dX10_passes_4 : decode cX10_passes 4 = .ok (.iconst 2, 1) := by decide +kernel
theorem dX10_passes_5 : decode cX10_passes 5 = .ok (.iaload, 1) := by decide +kernel
theorem dX10_passes_6 : decode cX10_passes 6 = .ok (.aload_n 0, 1) := by decide +kernel
theorem dX10_passes_7 : decode cX10_passes 7 = .ok (.iload_n 1, 1) := by decide +kernel
theorem dX10_passes_8 : decode cX10_passes 8 = .ok (.iconst 4, 1) := by decide +kernel
theorem dX10_passes_9 : decode cX10_passes 9 = .ok (.invokevirtual 104, 3) := by decide +kernel
theorem dX10_passes_12 : decode cX10_passes 12 = .ok (.if_icmp .gt 26, 3) := by decide +kernel
theorem dX10_passes_15 : decode cX10_passes 15 = .ok (.aload_n 0, 1) := by decide +kernel
theorem dX10_passes_16 : decode cX10_passes 16 = .ok (.iload_n 1, 1) := by decide +kernel
theorem dX10_passes_17 : decode cX10_passes 17 = .ok (.invokevirtual 127, 3) := by decide +kernel
theorem dX10_passes_20 : decode cX10_passes 20 = .ok (.ifCond .eq 18, 3) := by decide +kernel
theorem dX10_passes_23 : decode cX10_passes 23 = .ok (.aload_n 0, 1) := by decide +kernel
theorem dX10_passes_24 : decode cX10_passes 24 = .ok (.iload_n 1, 1) := by decide +kernel
theorem dX10_passes_25 : decode cX10_passes 25 = .ok (.iconst 5, 1) := by decide +kernel
theorem dX10_passes_26 : decode cX10_passes 26 = .ok (.aload_n 0, 1) := by decide +kernel
theorem dX10_passes_27 : decode cX10_passes 27 = .ok (.getfield 9, 3) := by decide +kernel
theorem dX10_passes_30 : decode cX10_passes 30 = .ok (.iconst 2, 1) := by decide +kernel
theorem dX10_passes_31 : decode cX10_passes 31 = .ok (.iaload, 1) := by decide +kernel
theorem dX10_passes_32 : decode cX10_passes 32 = .ok (.invokevirtual 83, 3) := by decide +kernel
theorem dX10_passes_35 : decode cX10_passes 35 = .ok (.goto 47, 3) := by decide +kernel
theorem dX10_passes_38 : decode cX10_passes 38 = .ok (.aload_n 0, 1) := by decide +kernel
theorem dX10_passes_39 : decode cX10_passes 39 = .ok (.getfield 9, 3) := by decide +kernel
theorem dX10_passes_42 : decode cX10_passes 42 = .ok (.iconst 5, 1) := by decide +kernel
theorem dX10_passes_43 : decode cX10_passes 43 = .ok (.dup2, 1) := by decide +kernel
theorem dX10_passes_44 : decode cX10_passes 44 = .ok (.iaload, 1) := by decide +kernel
theorem dX10_passes_45 : decode cX10_passes 45 = .ok (.aload_n 0, 1) := by decide +kernel
theorem dX10_passes_46 : decode cX10_passes 46 = .ok (.iload_n 1, 1) := by decide +kernel
theorem dX10_passes_47 : decode cX10_passes 47 = .ok (.invokevirtual 130, 3) := by decide +kernel
theorem dX10_passes_50 : decode cX10_passes 50 = .ok (.iadd, 1) := by decide +kernel
theorem dX10_passes_51 : decode cX10_passes 51 = .ok (.iastore, 1) := by decide +kernel
theorem dX10_passes_52 : decode cX10_passes 52 = .ok (.aload_n 0, 1) := by decide +kernel
theorem dX10_passes_53 : decode cX10_passes 53 = .ok (.getfield 9, 3) := by decide +kernel
theorem dX10_passes_56 : decode cX10_passes 56 = .ok (.bipush 6, 2) := by decide +kernel
theorem dX10_passes_58 : decode cX10_passes 58 = .ok (.dup2, 1) := by decide +kernel
theorem dX10_passes_59 : decode cX10_passes 59 = .ok (.iaload, 1) := by decide +kernel
theorem dX10_passes_60 : decode cX10_passes 60 = .ok (.aload_n 0, 1) := by decide +kernel
theorem dX10_passes_61 : decode cX10_passes 61 = .ok (.getfield 9, 3) := by decide +kernel
theorem dX10_passes_64 : decode cX10_passes 64 = .ok (.iconst 2, 1) := by decide +kernel
theorem dX10_passes_65 : decode cX10_passes 65 = .ok (.iaload, 1) := by decide +kernel
theorem dX10_passes_66 : decode cX10_passes 66 = .ok (.aload_n 0, 1) := by decide +kernel
theorem dX10_passes_67 : decode cX10_passes 67 = .ok (.iload_n 1, 1) := by decide +kernel
theorem dX10_passes_68 : decode cX10_passes 68 = .ok (.iconst 4, 1) := by decide +kernel
theorem dX10_passes_69 : decode cX10_passes 69 = .ok (.invokevirtual 104, 3) := by decide +kernel
theorem dX10_passes_72 : decode cX10_passes 72 = .ok (.if_icmp .ne 7, 3) := by decide +kernel
theorem dX10_passes_75 : decode cX10_passes 75 = .ok (.iconst 1, 1) := by decide +kernel
theorem dX10_passes_76 : decode cX10_passes 76 = .ok (.goto 4, 3) := by decide +kernel
theorem dX10_passes_79 : decode cX10_passes 79 = .ok (.iconst 0, 1) := by decide +kernel
theorem dX10_passes_80 : decode cX10_passes 80 = .ok (.iadd, 1) := by decide +kernel
theorem dX10_passes_81 : decode cX10_passes 81 = .ok (.iastore, 1) := by decide +kernel
theorem dX10_passes_82 : decode cX10_passes 82 = .ok (.return_, 1) := by decide +kernel
abbrev x_X10_passes (E : mh_E) (d mc ms : Nat) (Post : Option Value → mh_H → Prop) : mh_X := (E, yX10_passes, cX10_passes, 2, none, d, mc, ms, Post)
def q_X10_passes_82 (X : mh_X) : mh_PR := s_vret X
theorem b_X10_passes_82 {E : mh_E} {d mc ms : Nat} {Post : Option Value → mh_H → Prop} : mh_S (x_X10_passes E d mc ms Post) 82 (q_X10_passes_82 (x_X10_passes E d mc ms Post)) := sn_vret rfl dX10_passes_82
def q_X10_passes_80 (X : mh_X) : mh_PR := s_bin (fun x y => x + y) (s_ast 0 (fun x => x) (q_X10_passes_82 X))
theorem b_X10_passes_80 {E : mh_E} {d mc ms : Nat} {Post : Option Value → mh_H → Prop} : mh_S (x_X10_passes E d mc ms Post) 80 (q_X10_passes_80 (x_X10_passes E d mc ms Post)) := sn_iadd dX10_passes_80 (sn_iastore dX10_passes_81 b_X10_passes_82)
def q_X10_passes_38 (X : mh_X) : mh_PR := s_al 0 (s_gr 10 0 (s_push (.int (5)) (s_dup2 (s_ald 0 (s_al 0 (s_il 1 (s_cv X yX10_keepsOf 10 1 (s_bin (fun x y => x + y) (s_ast 0 (fun x => x) (s_al 0 (s_gr 10 0 (s_push (.int (6)) (s_dup2 (s_ald 0 (s_al 0 (s_gr 10 0 (s_push (.int (2)) (s_ald 0 (s_al 0 (s_il 1 (s_push (.int (4)) (s_cv X yX10_of 10 2 (s_if2 (fun x y => ¬ x = y) (s_push (.int (0)) (q_X10_passes_80 X)) (s_push (.int (1)) (q_X10_passes_80 X)))))))))))))))))))))))))
theorem b_X10_passes_38 {E : mh_E} {d mc ms : Nat} {Post : Option Value → mh_H → Prop} : mh_S (x_X10_passes E d mc ms Post) 38 (q_X10_passes_38 (x_X10_passes E d mc ms Post)) := sn_aload_n dX10_passes_38 rfl (sn_getr clX10 (by decide) w_1100 dX10_passes_39 (sn_iconst dX10_passes_42 (by decide) (sn_dup2 dX10_passes_43 (sn_iaload dX10_passes_44 (sn_aload_n dX10_passes_45 rfl (sn_iload_n dX10_passes_46 rfl (sn_cv w_1255 w_1257 w_29 w_66 rfl nm_X10_keepsOf dX10_passes_47 (sn_iadd dX10_passes_50 (sn_iastore dX10_passes_51 (sn_aload_n dX10_passes_52 rfl (sn_getr clX10 (by decide) w_1100 dX10_passes_53 (sn_bipush dX10_passes_56 (by decide) (sn_dup2 dX10_passes_58 (sn_iaload dX10_passes_59 (sn_aload_n dX10_passes_60 rfl (sn_getr clX10 (by decide) w_1100 dX10_passes_61 (sn_iconst dX10_passes_64 (by decide) (sn_iaload dX10_passes_65 (sn_aload_n dX10_passes_66 rfl (sn_iload_n dX10_passes_67 rfl (sn_iconst dX10_passes_68 (by decide) (sn_cv w_1234 w_1236 w_24 w_66 rfl nm_X10_of dX10_passes_69 (sn_icmp_ne (tgt := 79) dX10_passes_72 (by decide) (sn_iconst dX10_passes_79 (by decide) b_X10_passes_80) (sn_iconst dX10_passes_75 (by decide) (sn_goto (tgt := 80) dX10_passes_76 (by decide) (b_X10_passes_80))))))))))))))))))))))))))
def q_X10_passes_0 (X : mh_X) : mh_PR := s_al 0 (s_gr 10 0 (s_push (.int (2)) (s_ald 0 (s_al 0 (s_il 1 (s_push (.int (4)) (s_cv X yX10_of 10 2 (s_if2 (fun x y => y < x) (q_X10_passes_38 X) (s_al 0 (s_il 1 (s_cv X yX10_doesHold 10 1 (s_if1 (fun x => x = 0) (q_X10_passes_38 X) (s_al 0 (s_il 1 (s_push (.int (5)) (s_al 0 (s_gr 10 0 (s_push (.int (2)) (s_ald 0 (s_cv X yX10_put 10 3 (q_X10_passes_82 X)))))))))))))))))))))
theorem b_X10_passes_0 {E : mh_E} {d mc ms : Nat} {Post : Option Value → mh_H → Prop} : mh_S (x_X10_passes E d mc ms Post) 0 (q_X10_passes_0 (x_X10_passes E d mc ms Post)) := sn_aload_n dX10_passes_0 rfl (sn_getr clX10 (by decide) w_1100 dX10_passes_1 (sn_iconst dX10_passes_4 (by decide) (sn_iaload dX10_passes_5 (sn_aload_n dX10_passes_6 rfl (sn_iload_n dX10_passes_7 rfl (sn_iconst dX10_passes_8 (by decide) (sn_cv w_1234 w_1236 w_24 w_66 rfl nm_X10_of dX10_passes_9 (sn_icmp_gt (tgt := 38) dX10_passes_12 (by decide) (b_X10_passes_38) (sn_aload_n dX10_passes_15 rfl (sn_iload_n dX10_passes_16 rfl (sn_cv w_1239 w_1241 w_25 w_66 rfl nm_X10_doesHold dX10_passes_17 (sn_if_eq (tgt := 38) dX10_passes_20 (by decide) (b_X10_passes_38) (sn_aload_n dX10_passes_23 rfl (sn_iload_n dX10_passes_24 rfl (sn_iconst dX10_passes_25 (by decide) (sn_aload_n dX10_passes_26 rfl (sn_getr clX10 (by decide) w_1100 dX10_passes_27 (sn_iconst dX10_passes_30 (by decide) (sn_iaload dX10_passes_31 (sn_cv w_1222 w_1224 w_22 w_66 rfl nm_X10_put dX10_passes_32 (sn_goto (tgt := 82) dX10_passes_35 (by decide) (b_X10_passes_82))))))))))))))))))))))
theorem m_X10_passes {E : mh_E} {d mc ms : Nat} {args : List Value} {h : mh_H} {Post : Option Value → mh_H → Prop} (lv : List (Option Value)) (hl : lv_args 0 args = mh_al 0 lv) (hs : (lg_sl args).length ≤ 2) (hG : q_X10_passes_0 (x_X10_passes E d mc ms Post) lv [] h 0 0) : mh_M E d mc ms yX10_passes args h Post := mh_M.of w_1357 (by decide) (by decide) hl hs (b_X10_passes_0 _ _ _ _ _ hG)
theorem dX10_manyOf_0 : decode cX10_manyOf 0 = .ok (.iconst 0, 1) := by decide +kernel
theorem dX10_manyOf_1 : decode cX10_manyOf 1 = .ok (.istore_n 1, 1) := by decide +kernel
theorem dX10_manyOf_2 : decode cX10_manyOf 2 = .ok (.iload_n 0, 1) := by decide +kernel
theorem dX10_manyOf_3 : decode cX10_manyOf 3 = .ok (.istore_n 2, 1) := by decide +kernel
theorem dX10_manyOf_4 : decode cX10_manyOf 4 = .ok (.iload_n 2, 1) := by decide +kernel
theorem dX10_manyOf_5 : decode cX10_manyOf 5 = .ok (.ifCond .eq 15, 3) := by decide +kernel
theorem dX10_manyOf_8 : decode cX10_manyOf 8 = .ok (.iinc 1 1, 3) := by decide +kernel
theorem dX10_manyOf_11 : decode cX10_manyOf 11 = .ok (.iload_n 2, 1) := by decide +kernel
theorem dX10_manyOf_12 : decode cX10_manyOf 12 = .ok (.iload_n 2, 1) := by decide +kernel
theorem dX10_manyOf_13 : decode cX10_manyOf 13 = .ok (.iconst 1, 1) := by decide +kernel
theorem dX10_manyOf_14 : decode cX10_manyOf 14 = .ok (.isub, 1) := by decide +kernel
theorem dX10_manyOf_15 : decode cX10_manyOf 15 = .ok (.iand, 1) := by decide +kernel
theorem dX10_manyOf_16 : decode cX10_manyOf 16 = .ok (.istore_n 2, 1) := by decide +kernel
theorem dX10_manyOf_17 : decode cX10_manyOf 17 = .ok (.goto (-13), 3) := by decide +kernel
theorem dX10_manyOf_20 : decode cX10_manyOf 20 = .ok (.iload_n 1, 1) := by decide +kernel
theorem dX10_manyOf_21 : decode cX10_manyOf 21 = .ok (.ireturn, 1) := by decide +kernel
abbrev x_X10_manyOf (E : mh_E) (d mc ms : Nat) (Post : Option Value → mh_H → Prop) : mh_X := (E, yX10_manyOf, cX10_manyOf, 3, (some .int), d, mc, ms, Post)
def q_X10_manyOf_4 (X : mh_X) : mh_PR := s_il 2 (s_if1 (fun x => x = 0) (s_il 1 (s_iret X)) (s_inc 1 (1) (s_il 2 (s_il 2 (s_push (.int (1)) (s_bin (fun x y => x - y) (s_bin (fun x y => x &&& y) (s_is 2 (mh_G X 4)))))))))
theorem b_X10_manyOf_4 {E : mh_E} {d mc ms : Nat} {Post : Option Value → mh_H → Prop} : mh_S (x_X10_manyOf E d mc ms Post) 4 (q_X10_manyOf_4 (x_X10_manyOf E d mc ms Post)) := sn_iload_n dX10_manyOf_4 rfl (sn_if_eq (tgt := 20) dX10_manyOf_5 (by decide) (sn_iload_n dX10_manyOf_20 rfl (sn_iret rfl dX10_manyOf_21)) (sn_iinc dX10_manyOf_8 (by decide) (Nat.le_of_ble_eq_true rfl) (sn_iload_n dX10_manyOf_11 rfl (sn_iload_n dX10_manyOf_12 rfl (sn_iconst dX10_manyOf_13 (by decide) (sn_isub dX10_manyOf_14 (sn_iand dX10_manyOf_15 (sn_istore_n dX10_manyOf_16 rfl (Nat.le_of_ble_eq_true rfl) (sn_goto (tgt := 4) dX10_manyOf_17 (by decide) (mh_S.G))))))))))
def q_X10_manyOf_0 (X : mh_X) : mh_PR := s_push (.int (0)) (s_is 1 (s_il 0 (s_is 2 (mh_G X 4))))
theorem b_X10_manyOf_0 {E : mh_E} {d mc ms : Nat} {Post : Option Value → mh_H → Prop} : mh_S (x_X10_manyOf E d mc ms Post) 0 (q_X10_manyOf_0 (x_X10_manyOf E d mc ms Post)) := sn_iconst dX10_manyOf_0 (by decide) (sn_istore_n dX10_manyOf_1 rfl (Nat.le_of_ble_eq_true rfl) (sn_iload_n dX10_manyOf_2 rfl (sn_istore_n dX10_manyOf_3 rfl (Nat.le_of_ble_eq_true rfl) mh_S.G)))
theorem m_X10_manyOf {E : mh_E} {d mc ms : Nat} {args : List Value} {h : mh_H} {Post : Option Value → mh_H → Prop} (lv : List (Option Value)) (hl : lv_args 0 args = mh_al 0 lv) (hs : (lg_sl args).length ≤ 3) (hG : q_X10_manyOf_0 (x_X10_manyOf E d mc ms Post) lv [] h 0 0) : mh_M E d mc ms yX10_manyOf args h Post := mh_M.of w_1345 (by decide) (by decide) hl hs (b_X10_manyOf_0 _ _ _ _ _ hG)
theorem dX10_ranks_0 : decode cX10_ranks 0 = .ok (.iconst 0, 1) := by decide +kernel
theorem dX10_ranks_1 : decode cX10_ranks 1 = .ok (.istore_n 1, 1) := by decide +kernel
theorem dX10_ranks_2 : decode cX10_ranks 2 = .ok (.iconst 0, 1) := by decide +kernel
theorem dX10_ranks_3 : decode cX10_ranks 3 = .ok (.istore_n 2, 1) := by decide +kernel
theorem dX10_ranks_4 : decode cX10_ranks 4 = .ok (.iload_n 2, 1) := by decide +kernel
theorem dX10_ranks_5 : decode cX10_ranks 5 = .ok (.bipush 6, 2) := by decide +kernel
theorem dX10_ranks_7 : decode cX10_ranks 7 = .ok (.if_icmp .ge 17, 3) := by decide +kernel
theorem dX10_ranks_10 : decode cX10_ranks 10 = .ok (.iload_n 1, 1) := by decide +kernel
theorem dX10_ranks_11 : decode cX10_ranks 11 = .ok (.aload_n 0, 1) := by decide +kernel
theorem dX10_ranks_12 : decode cX10_ranks 12 = .ok (.iload_n 2, 1) := by decide +kernel
theorem dX10_ranks_13 : decode cX10_ranks 13 = .ok (.invokevirtual 101, 3) := by decide +kernel
theorem dX10_ranks_16 : decode cX10_ranks 16 = .ok (.iadd, 1) := by decide +kernel
theorem dX10_ranks_17 : decode cX10_ranks 17 = .ok (.istore_n 1, 1) := by decide +kernel
theorem dX10_ranks_18 : decode cX10_ranks 18 = .ok (.iinc 2 1, 3) := by decide +kernel
theorem dX10_ranks_21 : decode cX10_ranks 21 = .ok (.goto (-17), 3) := by decide +kernel
theorem dX10_ranks_24 : decode cX10_ranks 24 = .ok (.iload_n 1, 1) := by decide +kernel
theorem dX10_ranks_25 : decode cX10_ranks 25 = .ok (.ireturn, 1) := by decide +kernel
abbrev x_X10_ranks (E : mh_E) (d mc ms : Nat) (Post : Option Value → mh_H → Prop) : mh_X := (E, yX10_ranks, cX10_ranks, 3, (some .int), d, mc, ms, Post)
def q_X10_ranks_4 (X : mh_X) : mh_PR := s_il 2 (s_push (.int (6)) (s_if2 (fun x y => y ≤ x) (s_il 1 (s_iret X)) (s_il 1 (s_al 0 (s_il 2 (s_cv X yX10_rankOf 10 1 (s_bin (fun x y => x + y) (s_is 1 (s_inc 2 (1) (mh_G X 4))))))))))
theorem b_X10_ranks_4 {E : mh_E} {d mc ms : Nat} {Post : Option Value → mh_H → Prop} : mh_S (x_X10_ranks E d mc ms Post) 4 (q_X10_ranks_4 (x_X10_ranks E d mc ms Post)) := sn_iload_n dX10_ranks_4 rfl (sn_bipush dX10_ranks_5 (by decide) (sn_icmp_ge (tgt := 24) dX10_ranks_7 (by decide) (sn_iload_n dX10_ranks_24 rfl (sn_iret rfl dX10_ranks_25)) (sn_iload_n dX10_ranks_10 rfl (sn_aload_n dX10_ranks_11 rfl (sn_iload_n dX10_ranks_12 rfl (sn_cv w_1247 w_1249 w_27 w_66 rfl nm_X10_rankOf dX10_ranks_13 (sn_iadd dX10_ranks_16 (sn_istore_n dX10_ranks_17 rfl (Nat.le_of_ble_eq_true rfl) (sn_iinc dX10_ranks_18 (by decide) (Nat.le_of_ble_eq_true rfl) (sn_goto (tgt := 4) dX10_ranks_21 (by decide) (mh_S.G)))))))))))
def q_X10_ranks_0 (X : mh_X) : mh_PR := s_push (.int (0)) (s_is 1 (s_push (.int (0)) (s_is 2 (mh_G X 4))))
theorem b_X10_ranks_0 {E : mh_E} {d mc ms : Nat} {Post : Option Value → mh_H → Prop} : mh_S (x_X10_ranks E d mc ms Post) 0 (q_X10_ranks_0 (x_X10_ranks E d mc ms Post)) := sn_iconst dX10_ranks_0 (by decide) (sn_istore_n dX10_ranks_1 rfl (Nat.le_of_ble_eq_true rfl) (sn_iconst dX10_ranks_2 (by decide) (sn_istore_n dX10_ranks_3 rfl (Nat.le_of_ble_eq_true rfl) mh_S.G)))
theorem m_X10_ranks {E : mh_E} {d mc ms : Nat} {args : List Value} {h : mh_H} {Post : Option Value → mh_H → Prop} (lv : List (Option Value)) (hl : lv_args 0 args = mh_al 0 lv) (hs : (lg_sl args).length ≤ 3) (hG : q_X10_ranks_0 (x_X10_ranks E d mc ms Post) lv [] h 0 0) : mh_M E d mc ms yX10_ranks args h Post := mh_M.of w_1369 (by decide) (by decide) hl hs (b_X10_ranks_0 _ _ _ _ _ hG)
theorem dX10_putsBack_0 : decode cX10_putsBack 0 = .ok (.iconst 0, 1) := by decide +kernel
theorem dX10_putsBack_1 : decode cX10_putsBack 1 = .ok (.istore_n 1, 1) := by decide +kernel
theorem dX10_putsBack_2 : decode cX10_putsBack 2 = .ok (.iload_n 1, 1) := by decide +kernel
theorem dX10_putsBack_3 : decode cX10_putsBack 3 = .ok (.bipush 80, 2) := by decide +kernel
theorem dX10_putsBack_5 : decode cX10_putsBack 5 = .ok (.if_icmp .ge 21, 3) := by decide +kernel
theorem dX10_putsBack_8 : decode cX10_putsBack 8 = .ok (.aload_n 0, 1) := by decide +kernel
theorem dX10_putsBack_9 : decode cX10_putsBack 9 = .ok (.getfield 9, 3) := by decide +kernel
theorem dX10_putsBack_12 : decode cX10_putsBack 12 = .ok (.iload_n 1, 1) := by decide +kernel
theorem dX10_putsBack_13 : decode cX10_putsBack 13 = .ok (.aload_n 0, 1) := by decide +kernel
theorem dX10_putsBack_14 : decode cX10_putsBack 14 = .ok (.getfield 19, 3) := by decide +kernel
theorem dX10_putsBack_17 : decode cX10_putsBack 17 = .ok (.iload_n 1, 1) := by decide +kernel
theorem dX10_putsBack_18 : decode cX10_putsBack 18 = .ok (.iaload, 1) := by decide +kernel
theorem dX10_putsBack_19 : decode cX10_putsBack 19 = .ok (.iastore, 1) := by decide +kernel
theorem dX10_putsBack_20 : decode cX10_putsBack 20 = .ok (.iinc 1 1, 3) := by decide +kernel
theorem dX10_putsBack_23 : decode cX10_putsBack 23 = .ok (.goto (-21), 3) := by decide +kernel
theorem dX10_putsBack_26 : decode cX10_putsBack 26 = .ok (.return_, 1) := by decide +kernel
abbrev x_X10_putsBack (E : mh_E) (d mc ms : Nat) (Post : Option Value → mh_H → Prop) : mh_X := (E, yX10_putsBack, cX10_putsBack, 2, none, d, mc, ms, Post)
def q_X10_putsBack_2 (X : mh_X) : mh_PR := s_il 1 (s_push (.int (80)) (s_if2 (fun x y => y ≤ x) (s_vret X) (s_al 0 (s_gr 10 0 (s_il 1 (s_al 0 (s_gr 10 4 (s_il 1 (s_ald 0 (s_ast 0 (fun x => x) (s_inc 1 (1) (mh_G X 2))))))))))))
theorem b_X10_putsBack_2 {E : mh_E} {d mc ms : Nat} {Post : Option Value → mh_H → Prop} : mh_S (x_X10_putsBack E d mc ms Post) 2 (q_X10_putsBack_2 (x_X10_putsBack E d mc ms Post)) := sn_iload_n dX10_putsBack_2 rfl (sn_bipush dX10_putsBack_3 (by decide) (sn_icmp_ge (tgt := 26) dX10_putsBack_5 (by decide) (sn_vret rfl dX10_putsBack_26) (sn_aload_n dX10_putsBack_8 rfl (sn_getr clX10 (by decide) w_1100 dX10_putsBack_9 (sn_iload_n dX10_putsBack_12 rfl (sn_aload_n dX10_putsBack_13 rfl (sn_getr clX10 (by decide) w_1104 dX10_putsBack_14 (sn_iload_n dX10_putsBack_17 rfl (sn_iaload dX10_putsBack_18 (sn_iastore dX10_putsBack_19 (sn_iinc dX10_putsBack_20 (by decide) (Nat.le_of_ble_eq_true rfl) (sn_goto (tgt := 2) dX10_putsBack_23 (by decide) (mh_S.G)))))))))))))
def q_X10_putsBack_0 (X : mh_X) : mh_PR := s_push (.int (0)) (s_is 1 (mh_G X 2))
theorem b_X10_putsBack_0 {E : mh_E} {d mc ms : Nat} {Post : Option Value → mh_H → Prop} : mh_S (x_X10_putsBack E d mc ms Post) 0 (q_X10_putsBack_0 (x_X10_putsBack E d mc ms Post)) := sn_iconst dX10_putsBack_0 (by decide) (sn_istore_n dX10_putsBack_1 rfl (Nat.le_of_ble_eq_true rfl) mh_S.G)
theorem m_X10_putsBack {E : mh_E} {d mc ms : Nat} {args : List Value} {h : mh_H} {Post : Option Value → mh_H → Prop} (lv : List (Option Value)) (hl : lv_args 0 args = mh_al 0 lv) (hs : (lg_sl args).length ≤ 2) (hG : q_X10_putsBack_0 (x_X10_putsBack E d mc ms Post) lv [] h 0 0) : mh_M E d mc ms yX10_putsBack args h Post := mh_M.of w_1385 (by decide) (by decide) hl hs (b_X10_putsBack_0 _ _ _ _ _ hG)
theorem dX10_raised_0 : decode cX10_raised 0 = .ok (.iload_n 1, 1) := by decide +kernel
theorem dX10_raised_1 : decode cX10_raised 1 = .ok (.iconst 1, 1) := by decide +kernel
theorem dX10_raised_2 : decode cX10_raised 2 = .ok (.bipush 60, 2) := by decide +kernel
theorem dX10_raised_4 : decode cX10_raised 4 = .ok (.invokestatic 79, 3) := by decide +kernel
theorem dX10_raised_7 : decode cX10_raised 7 = .ok (.ifCond .eq 12, 3) := by decide +kernel
theorem dX10_raised_10 : decode cX10_raised 10 = .ok (.iload_n 2, 1) := by decide +kernel
theorem dX10_raised_11 : decode cX10_raised 11 = .ok (.iconst 0, 1) := by decide +kernel
theorem dX10_raised_12 : decode cX10_raised 12 = .ok (.iconst 1, 1) := by decide +kernel
theorem dX10_raised_13 : decode cX10_raised 13 = .ok (.invokestatic 79, 3) := by decide +kernel
theorem dX10_raised_16 : decode cX10_raised 16 = .ok (.ifCond .ne 6, 3) := by decide +kernel
theorem dX10_raised_19 : decode cX10_raised 19 = .ok (.ldc 91, 2) := by decide +kernel
theorem dX10_raised_21 : decode cX10_raised 21 = .ok (.ireturn, 1) := by decide +kernel
theorem dX10_raised_22 : decode cX10_raised 22 = .ok (.aload_n 0, 1) := by decide +kernel
theorem dX10_raised_23 : decode cX10_raised 23 = .ok (.invokevirtual 174, 3) := by decide +kernel
theorem dX10_raised_26 : decode cX10_raised 26 = .ok (.iconst 0, 1) := by decide +kernel
theorem dX10_raised_27 : decode cX10_raised 27 = .ok (.istore_n 3, 1) := by decide +kernel
theorem dX10_raised_28 : decode cX10_raised 28 = .ok (.iconst (-1), 1) := by decide +kernel
theorem dX10_raised_29 : decode cX10_raised 29 = .ok (.istore 4, 2) := by decide +kernel
theorem dX10_raised_31 : decode cX10_raised 31 = .ok (.iconst 0, 1) := by decide +kernel
theorem dX10_raised_32 : decode cX10_raised 32 = .ok (.istore 5, 2) := by decide +kernel
theorem dX10_raised_34 : decode cX10_raised 34 = .ok (.iload 5, 2) := by decide +kernel
theorem dX10_raised_36 : decode cX10_raised 36 = .ok (.bipush 6, 2) := by decide +kernel
theorem dX10_raised_38 : decode cX10_raised 38 = .ok (.if_icmp .ge 74, 3) := by decide +kernel
theorem dX10_raised_41 : decode cX10_raised 41 = .ok (.aload_n 0, 1) := by decide +kernel
theorem dX10_raised_42 : decode cX10_raised 42 = .ok (.getfield 9, 3) := by decide +kernel
theorem dX10_raised_45 : decode cX10_raised 45 = .ok (.bipush 8, 2) := by decide +kernel
theorem dX10_raised_47 : decode cX10_raised 47 = .ok (.iconst 2, 1) := by decide +kernel
theorem dX10_raised_48 : decode cX10_raised 48 = .ok (.iload 5, 2) := by decide +kernel
theorem dX10_raised_50 : decode cX10_raised 50 = .ok (.imul, 1) := by decide +kernel
theorem dX10_raised_51 : decode cX10_raised 51 = .ok (.iadd, 1) := by decide +kernel
theorem dX10_raised_52 : decode cX10_raised 52 = .ok (.iconst 1, 1) := by decide +kernel
theorem dX10_raised_53 : decode cX10_raised 53 = .ok (.iadd, 1) := by decide +kernel
theorem dX10_raised_54 : decode cX10_raised 54 = .ok (.aload_n 0, 1) := by decide +kernel
theorem dX10_raised_55 : decode cX10_raised 55 = .ok (.iload 5, 2) := by decide +kernel
theorem dX10_raised_57 : decode cX10_raised 57 = .ok (.invokevirtual 101, 3) := by decide +kernel
theorem dX10_raised_60 : decode cX10_raised 60 = .ok (.iconst 1, 1) := by decide +kernel
theorem dX10_raised_61 : decode cX10_raised 61 = .ok (.iadd, 1) := by decide +kernel
theorem dX10_raised_62 : decode cX10_raised 62 = .ok (.iconst 0, 1) := by decide +kernel
theorem dX10_raised_63 : decode cX10_raised 63 = .ok (.bipush 9, 2) := by decide +kernel
theorem dX10_raised_65 : decode cX10_raised 65 = .ok (.invokestatic 116, 3) := by decide +kernel
theorem dX10_raised_68 : decode cX10_raised 68 = .ok (.iastore, 1) := by decide +kernel
theorem dX10_raised_69 : decode cX10_raised 69 = .ok (.aload_n 0, 1) := by decide +kernel
theorem dX10_raised_70 : decode cX10_raised 70 = .ok (.iload_n 1, 1) := by decide +kernel
theorem dX10_raised_71 : decode cX10_raised 71 = .ok (.invokevirtual 183, 3) := by decide +kernel
theorem dX10_raised_74 : decode cX10_raised 74 = .ok (.istore 6, 2) := by decide +kernel
theorem dX10_raised_76 : decode cX10_raised 76 = .ok (.iload 6, 2) := by decide +kernel
theorem dX10_raised_78 : decode cX10_raised 78 = .ok (.iload 4, 2) := by decide +kernel
theorem dX10_raised_80 : decode cX10_raised 80 = .ok (.if_icmp .le 8, 3) := by decide +kernel
theorem dX10_raised_83 : decode cX10_raised 83 = .ok (.iload 5, 2) := by decide +kernel
theorem dX10_raised_85 : decode cX10_raised 85 = .ok (.goto 4, 3) := by decide +kernel
theorem dX10_raised_88 : decode cX10_raised 88 = .ok (.iload_n 3, 1) := by decide +kernel
theorem dX10_raised_89 : decode cX10_raised 89 = .ok (.istore_n 3, 1) := by decide +kernel
theorem dX10_raised_90 : decode cX10_raised 90 = .ok (.iload 6, 2) := by decide +kernel
theorem dX10_raised_92 : decode cX10_raised 92 = .ok (.iload 4, 2) := by decide +kernel
theorem dX10_raised_94 : decode cX10_raised 94 = .ok (.if_icmp .le 8, 3) := by decide +kernel
theorem dX10_raised_97 : decode cX10_raised 97 = .ok (.iload 6, 2) := by decide +kernel
theorem dX10_raised_99 : decode cX10_raised 99 = .ok (.goto 5, 3) := by decide +kernel
theorem dX10_raised_102 : decode cX10_raised 102 = .ok (.iload 4, 2) := by decide +kernel
theorem dX10_raised_104 : decode cX10_raised 104 = .ok (.istore 4, 2) := by decide +kernel
theorem dX10_raised_106 : decode cX10_raised 106 = .ok (.iinc 5 1, 3) := by decide +kernel
theorem dX10_raised_109 : decode cX10_raised 109 = .ok (.goto (-75), 3) := by decide +kernel
theorem dX10_raised_112 : decode cX10_raised 112 = .ok (.iload_n 2, 1) := by decide +kernel
theorem dX10_raised_113 : decode cX10_raised 113 = .ok (.ifCond .ne 7, 3) := by decide +kernel
theorem dX10_raised_116 : decode cX10_raised 116 = .ok (.iload_n 3, 1) := by decide +kernel
theorem dX10_raised_117 : decode cX10_raised 117 = .ok (.goto 5, 3) := by decide +kernel
theorem dX10_raised_120 : decode cX10_raised 120 = .ok (.iload 4, 2) := by decide +kernel
theorem dX10_raised_122 : decode cX10_raised 122 = .ok (.ireturn, 1) := by decide +kernel
abbrev x_X10_raised (E : mh_E) (d mc ms : Nat) (Post : Option Value → mh_H → Prop) : mh_X := (E, yX10_raised, cX10_raised, 7, (some .int), d, mc, ms, Post)
def q_X10_raised_122 (X : mh_X) : mh_PR := s_iret X
theorem b_X10_raised_122 {E : mh_E} {d mc ms : Nat} {Post : Option Value → mh_H → Prop} : mh_S (x_X10_raised E d mc ms Post) 122 (q_X10_raised_122 (x_X10_raised E d mc ms Post)) := sn_iret rfl dX10_raised_122
def q_X10_raised_104 (X : mh_X) : mh_PR := s_is 4 (s_inc 5 (1) (mh_G X 34))
theorem b_X10_raised_104 {E : mh_E} {d mc ms : Nat} {Post : Option Value → mh_H → Prop} : mh_S (x_X10_raised E d mc ms Post) 104 (q_X10_raised_104 (x_X10_raised E d mc ms Post)) := sn_istore dX10_raised_104 (Nat.le_of_ble_eq_true rfl) (sn_iinc dX10_raised_106 (by decide) (Nat.le_of_ble_eq_true rfl) (sn_goto (tgt := 34) dX10_raised_109 (by decide) (mh_S.G)))
def q_X10_raised_89 (X : mh_X) : mh_PR := s_is 3 (s_il 6 (s_il 4 (s_if2 (fun x y => x ≤ y) (s_il 4 (q_X10_raised_104 X)) (s_il 6 (q_X10_raised_104 X)))))
theorem b_X10_raised_89 {E : mh_E} {d mc ms : Nat} {Post : Option Value → mh_H → Prop} : mh_S (x_X10_raised E d mc ms Post) 89 (q_X10_raised_89 (x_X10_raised E d mc ms Post)) := sn_istore_n dX10_raised_89 rfl (Nat.le_of_ble_eq_true rfl) (sn_iload dX10_raised_90 (sn_iload dX10_raised_92 (sn_icmp_le (tgt := 102) dX10_raised_94 (by decide) (sn_iload dX10_raised_102 b_X10_raised_104) (sn_iload dX10_raised_97 (sn_goto (tgt := 104) dX10_raised_99 (by decide) (b_X10_raised_104))))))
def q_X10_raised_34 (X : mh_X) : mh_PR := s_il 5 (s_push (.int (6)) (s_if2 (fun x y => y ≤ x) (s_il 2 (s_if1 (fun x => ¬ x = 0) (s_il 4 (q_X10_raised_122 X)) (s_il 3 (q_X10_raised_122 X)))) (s_al 0 (s_gr 10 0 (s_push (.int (8)) (s_push (.int (2)) (s_il 5 (s_bin (fun x y => x * y) (s_bin (fun x y => x + y) (s_push (.int (1)) (s_bin (fun x y => x + y) (s_al 0 (s_il 5 (s_cv X yX10_rankOf 10 1 (s_push (.int (1)) (s_bin (fun x y => x + y) (s_push (.int (0)) (s_push (.int (9)) (s_cs X yX10_within 3 (s_ast 0 (fun x => x) (s_al 0 (s_il 1 (s_cv X yX10_fulfilledBehind 10 1 (s_is 6 (s_il 6 (s_il 4 (s_if2 (fun x y => x ≤ y) (s_il 3 (q_X10_raised_89 X)) (s_il 5 (q_X10_raised_89 X)))))))))))))))))))))))))))))
theorem b_X10_raised_34 {E : mh_E} {d mc ms : Nat} {Post : Option Value → mh_H → Prop} : mh_S (x_X10_raised E d mc ms Post) 34 (q_X10_raised_34 (x_X10_raised E d mc ms Post)) := sn_iload dX10_raised_34 (sn_bipush dX10_raised_36 (by decide) (sn_icmp_ge (tgt := 112) dX10_raised_38 (by decide) (sn_iload_n dX10_raised_112 rfl (sn_if_ne (tgt := 120) dX10_raised_113 (by decide) (sn_iload dX10_raised_120 b_X10_raised_122) (sn_iload_n dX10_raised_116 rfl (sn_goto (tgt := 122) dX10_raised_117 (by decide) (b_X10_raised_122))))) (sn_aload_n dX10_raised_41 rfl (sn_getr clX10 (by decide) w_1100 dX10_raised_42 (sn_bipush dX10_raised_45 (by decide) (sn_iconst dX10_raised_47 (by decide) (sn_iload dX10_raised_48 (sn_imul dX10_raised_50 (sn_iadd dX10_raised_51 (sn_iconst dX10_raised_52 (by decide) (sn_iadd dX10_raised_53 (sn_aload_n dX10_raised_54 rfl (sn_iload dX10_raised_55 (sn_cv w_1247 w_1249 w_27 w_66 rfl nm_X10_rankOf dX10_raised_57 (sn_iconst dX10_raised_60 (by decide) (sn_iadd dX10_raised_61 (sn_iconst dX10_raised_62 (by decide) (sn_bipush dX10_raised_63 (by decide) (sn_cs w_1264 w_1265 w_66 nm_X10_within dX10_raised_65 (sn_iastore dX10_raised_68 (sn_aload_n dX10_raised_69 rfl (sn_iload_n dX10_raised_70 rfl (sn_cv w_1402 w_1404 w_44 w_66 rfl nm_X10_fulfilledBehind dX10_raised_71 (sn_istore dX10_raised_74 (Nat.le_of_ble_eq_true rfl) (sn_iload dX10_raised_76 (sn_iload dX10_raised_78 (sn_icmp_le (tgt := 88) dX10_raised_80 (by decide) (sn_iload_n dX10_raised_88 rfl b_X10_raised_89) (sn_iload dX10_raised_83 (sn_goto (tgt := 89) dX10_raised_85 (by decide) (b_X10_raised_89))))))))))))))))))))))))))))))
def q_X10_raised_19 (X : mh_X) : mh_PR := s_push (.int (-1000000001)) (s_iret X)
theorem b_X10_raised_19 {E : mh_E} {d mc ms : Nat} {Post : Option Value → mh_H → Prop} : mh_S (x_X10_raised E d mc ms Post) 19 (q_X10_raised_19 (x_X10_raised E d mc ms Post)) := sn_ldc dX10_raised_19 w_1216 (sn_iret rfl dX10_raised_21)
def q_X10_raised_0 (X : mh_X) : mh_PR := s_il 1 (s_push (.int (1)) (s_push (.int (60)) (s_cs X yX10_in 3 (s_if1 (fun x => x = 0) (q_X10_raised_19 X) (s_il 2 (s_push (.int (0)) (s_push (.int (1)) (s_cs X yX10_in 3 (s_if1 (fun x => ¬ x = 0) (s_al 0 (s_cv X yX10_thinks 10 0 (s_push (.int (0)) (s_is 3 (s_push (.int (-1)) (s_is 4 (s_push (.int (0)) (s_is 5 (mh_G X 34))))))))) (q_X10_raised_19 X))))))))))
theorem b_X10_raised_0 {E : mh_E} {d mc ms : Nat} {Post : Option Value → mh_H → Prop} : mh_S (x_X10_raised E d mc ms Post) 0 (q_X10_raised_0 (x_X10_raised E d mc ms Post)) := sn_iload_n dX10_raised_0 rfl (sn_iconst dX10_raised_1 (by decide) (sn_bipush dX10_raised_2 (by decide) (sn_cs w_1210 w_1211 w_66 nm_X10_in dX10_raised_4 (sn_if_eq (tgt := 19) dX10_raised_7 (by decide) (b_X10_raised_19) (sn_iload_n dX10_raised_10 rfl (sn_iconst dX10_raised_11 (by decide) (sn_iconst dX10_raised_12 (by decide) (sn_cs w_1210 w_1211 w_66 nm_X10_in dX10_raised_13 (sn_if_ne (tgt := 22) dX10_raised_16 (by decide) (sn_aload_n dX10_raised_22 rfl (sn_cv w_1374 w_1376 w_41 w_66 rfl nm_X10_thinks dX10_raised_23 (sn_iconst dX10_raised_26 (by decide) (sn_istore_n dX10_raised_27 rfl (Nat.le_of_ble_eq_true rfl) (sn_iconst dX10_raised_28 (by decide) (sn_istore dX10_raised_29 (Nat.le_of_ble_eq_true rfl) (sn_iconst dX10_raised_31 (by decide) (sn_istore dX10_raised_32 (Nat.le_of_ble_eq_true rfl) mh_S.G)))))))) (b_X10_raised_19))))))))))
theorem m_X10_raised {E : mh_E} {d mc ms : Nat} {args : List Value} {h : mh_H} {Post : Option Value → mh_H → Prop} (lv : List (Option Value)) (hl : lv_args 0 args = mh_al 0 lv) (hs : (lg_sl args).length ≤ 7) (hG : q_X10_raised_0 (x_X10_raised E d mc ms Post) lv [] h 0 0) : mh_M E d mc ms yX10_raised args h Post := mh_M.of w_1409 (by decide) (by decide) hl hs (b_X10_raised_0 _ _ _ _ _ hG)
theorem dX10_latest_0 : decode cX10_latest 0 = .ok (.aload_n 0, 1) := by decide +kernel
theorem dX10_latest_1 : decode cX10_latest 1 = .ok (.iload_n 1, 1) := by decide +kernel
theorem dX10_latest_2 : decode cX10_latest 2 = .ok (.invokevirtual 122, 3) := by decide +kernel
theorem dX10_latest_5 : decode cX10_latest 5 = .ok (.ifCond .ne 6, 3) := by decide +kernel
theorem dX10_latest_8 : decode cX10_latest 8 = .ok (.ldc 91, 2) := by decide +kernel
theorem dX10_latest_10 : decode cX10_latest 10 = .ok (.ireturn, 1) := by decide +kernel
theorem dX10_latest_11 : decode cX10_latest 11 = .ok (.aload_n 0, 1) := by decide +kernel
theorem dX10_latest_12 : decode cX10_latest 12 = .ok (.iload_n 1, 1) := by decide +kernel
theorem dX10_latest_13 : decode cX10_latest 13 = .ok (.iconst 5, 1) := by decide +kernel
theorem dX10_latest_14 : decode cX10_latest 14 = .ok (.invokevirtual 104, 3) := by decide +kernel
theorem dX10_latest_17 : decode cX10_latest 17 = .ok (.ifCond .lt 6, 3) := by decide +kernel
theorem dX10_latest_20 : decode cX10_latest 20 = .ok (.ldc 143, 2) := by decide +kernel
theorem dX10_latest_22 : decode cX10_latest 22 = .ok (.ireturn, 1) := by decide +kernel
theorem dX10_latest_23 : decode cX10_latest 23 = .ok (.aload_n 0, 1) := by decide +kernel
theorem dX10_latest_24 : decode cX10_latest 24 = .ok (.invokevirtual 174, 3) := by decide +kernel
theorem dX10_latest_27 : decode cX10_latest 27 = .ok (.aload_n 0, 1) := by decide +kernel
theorem dX10_latest_28 : decode cX10_latest 28 = .ok (.getfield 9, 3) := by decide +kernel
theorem dX10_latest_31 : decode cX10_latest 31 = .ok (.iconst 2, 1) := by decide +kernel
theorem dX10_latest_32 : decode cX10_latest 32 = .ok (.iaload, 1) := by decide +kernel
theorem dX10_latest_33 : decode cX10_latest 33 = .ok (.istore_n 2, 1) := by decide +kernel
theorem dX10_latest_34 : decode cX10_latest 34 = .ok (.ldc 126, 2) := by decide +kernel
theorem dX10_latest_36 : decode cX10_latest 36 = .ok (.istore_n 3, 1) := by decide +kernel
theorem dX10_latest_37 : decode cX10_latest 37 = .ok (.iload_n 2, 1) := by decide +kernel
theorem dX10_latest_38 : decode cX10_latest 38 = .ok (.istore 4, 2) := by decide +kernel
theorem dX10_latest_40 : decode cX10_latest 40 = .ok (.iload 4, 2) := by decide +kernel
theorem dX10_latest_42 : decode cX10_latest 42 = .ok (.iload_n 2, 1) := by decide +kernel
theorem dX10_latest_43 : decode cX10_latest 43 = .ok (.bipush 60, 2) := by decide +kernel
theorem dX10_latest_45 : decode cX10_latest 45 = .ok (.iadd, 1) := by decide +kernel
theorem dX10_latest_46 : decode cX10_latest 46 = .ok (.if_icmp .gt 50, 3) := by decide +kernel
theorem dX10_latest_49 : decode cX10_latest 49 = .ok (.iload_n 3, 1) := by decide +kernel
theorem dX10_latest_50 : decode cX10_latest 50 = .ok (.ldc 126, 2) := by decide +kernel
theorem dX10_latest_52 : decode cX10_latest 52 = .ok (.if_icmp .ne 44, 3) := by decide +kernel
theorem dX10_latest_55 : decode cX10_latest 55 = .ok (.aload_n 0, 1) := by decide +kernel
theorem dX10_latest_56 : decode cX10_latest 56 = .ok (.iload_n 1, 1) := by decide +kernel
theorem dX10_latest_57 : decode cX10_latest 57 = .ok (.iconst 4, 1) := by decide +kernel
theorem dX10_latest_58 : decode cX10_latest 58 = .ok (.iload 4, 2) := by decide +kernel
theorem dX10_latest_60 : decode cX10_latest 60 = .ok (.invokevirtual 83, 3) := by decide +kernel
theorem dX10_latest_63 : decode cX10_latest 63 = .ok (.aload_n 0, 1) := by decide +kernel
theorem dX10_latest_64 : decode cX10_latest 64 = .ok (.bipush 61, 2) := by decide +kernel
theorem dX10_latest_66 : decode cX10_latest 66 = .ok (.invokevirtual 165, 3) := by decide +kernel
theorem dX10_latest_69 : decode cX10_latest 69 = .ok (.aload_n 0, 1) := by decide +kernel
theorem dX10_latest_70 : decode cX10_latest 70 = .ok (.iload_n 1, 1) := by decide +kernel
theorem dX10_latest_71 : decode cX10_latest 71 = .ok (.iconst 5, 1) := by decide +kernel
theorem dX10_latest_72 : decode cX10_latest 72 = .ok (.invokevirtual 104, 3) := by decide +kernel
theorem dX10_latest_75 : decode cX10_latest 75 = .ok (.ifCond .lt 8, 3) := by decide +kernel
theorem dX10_latest_78 : decode cX10_latest 78 = .ok (.iload 4, 2) := by decide +kernel
theorem dX10_latest_80 : decode cX10_latest 80 = .ok (.goto 5, 3) := by decide +kernel
theorem dX10_latest_83 : decode cX10_latest 83 = .ok (.ldc 126, 2) := by decide +kernel
theorem dX10_latest_85 : decode cX10_latest 85 = .ok (.istore_n 3, 1) := by decide +kernel
theorem dX10_latest_86 : decode cX10_latest 86 = .ok (.aload_n 0, 1) := by decide +kernel
theorem dX10_latest_87 : decode cX10_latest 87 = .ok (.invokevirtual 180, 3) := by decide +kernel
theorem dX10_latest_90 : decode cX10_latest 90 = .ok (.iinc 4 1, 3) := by decide +kernel
theorem dX10_latest_93 : decode cX10_latest 93 = .ok (.goto (-53), 3) := by decide +kernel
theorem dX10_latest_96 : decode cX10_latest 96 = .ok (.iload_n 3, 1) := by decide +kernel
theorem dX10_latest_97 : decode cX10_latest 97 = .ok (.ireturn, 1) := by decide +kernel
abbrev x_X10_latest (E : mh_E) (d mc ms : Nat) (Post : Option Value → mh_H → Prop) : mh_X := (E, yX10_latest, cX10_latest, 5, (some .int), d, mc, ms, Post)
def q_X10_latest_96 (X : mh_X) : mh_PR := s_il 3 (s_iret X)
theorem b_X10_latest_96 {E : mh_E} {d mc ms : Nat} {Post : Option Value → mh_H → Prop} : mh_S (x_X10_latest E d mc ms Post) 96 (q_X10_latest_96 (x_X10_latest E d mc ms Post)) := sn_iload_n dX10_latest_96 rfl (sn_iret rfl dX10_latest_97)
def q_X10_latest_85 (X : mh_X) : mh_PR := s_is 3 (s_al 0 (s_cv X yX10_putsBack 10 0 (s_inc 4 (1) (mh_G X 40))))
theorem b_X10_latest_85 {E : mh_E} {d mc ms : Nat} {Post : Option Value → mh_H → Prop} : mh_S (x_X10_latest E d mc ms Post) 85 (q_X10_latest_85 (x_X10_latest E d mc ms Post)) := sn_istore_n dX10_latest_85 rfl (Nat.le_of_ble_eq_true rfl) (sn_aload_n dX10_latest_86 rfl (sn_cv w_1382 w_1384 w_43 w_66 rfl nm_X10_putsBack dX10_latest_87 (sn_iinc dX10_latest_90 (by decide) (Nat.le_of_ble_eq_true rfl) (sn_goto (tgt := 40) dX10_latest_93 (by decide) (mh_S.G)))))
def q_X10_latest_40 (X : mh_X) : mh_PR := s_il 4 (s_il 2 (s_push (.int (60)) (s_bin (fun x y => x + y) (s_if2 (fun x y => y < x) (q_X10_latest_96 X) (s_il 3 (s_push (.int (-1000000005)) (s_if2 (fun x y => ¬ x = y) (q_X10_latest_96 X) (s_al 0 (s_il 1 (s_push (.int (4)) (s_il 4 (s_cv X yX10_put 10 3 (s_al 0 (s_push (.int (61)) (s_cv X yX10_goesOn 10 1 (s_al 0 (s_il 1 (s_push (.int (5)) (s_cv X yX10_of 10 2 (s_if1 (fun x => x < 0) (s_push (.int (-1000000005)) (q_X10_latest_85 X)) (s_il 4 (q_X10_latest_85 X))))))))))))))))))))))
theorem b_X10_latest_40 {E : mh_E} {d mc ms : Nat} {Post : Option Value → mh_H → Prop} : mh_S (x_X10_latest E d mc ms Post) 40 (q_X10_latest_40 (x_X10_latest E d mc ms Post)) := sn_iload dX10_latest_40 (sn_iload_n dX10_latest_42 rfl (sn_bipush dX10_latest_43 (by decide) (sn_iadd dX10_latest_45 (sn_icmp_gt (tgt := 96) dX10_latest_46 (by decide) (b_X10_latest_96) (sn_iload_n dX10_latest_49 rfl (sn_ldc dX10_latest_50 w_1238 (sn_icmp_ne (tgt := 96) dX10_latest_52 (by decide) (b_X10_latest_96) (sn_aload_n dX10_latest_55 rfl (sn_iload_n dX10_latest_56 rfl (sn_iconst dX10_latest_57 (by decide) (sn_iload dX10_latest_58 (sn_cv w_1222 w_1224 w_22 w_66 rfl nm_X10_put dX10_latest_60 (sn_aload_n dX10_latest_63 rfl (sn_bipush dX10_latest_64 (by decide) (sn_cv w_1346 w_1348 w_36 w_66 rfl nm_X10_goesOn dX10_latest_66 (sn_aload_n dX10_latest_69 rfl (sn_iload_n dX10_latest_70 rfl (sn_iconst dX10_latest_71 (by decide) (sn_cv w_1234 w_1236 w_24 w_66 rfl nm_X10_of dX10_latest_72 (sn_if_lt (tgt := 83) dX10_latest_75 (by decide) (sn_ldc dX10_latest_83 w_1238 b_X10_latest_85) (sn_iload dX10_latest_78 (sn_goto (tgt := 85) dX10_latest_80 (by decide) (b_X10_latest_85)))))))))))))))))))))))
def q_X10_latest_0 (X : mh_X) : mh_PR := s_al 0 (s_il 1 (s_cv X yX10_isStone 10 1 (s_if1 (fun x => ¬ x = 0) (s_al 0 (s_il 1 (s_push (.int (5)) (s_cv X yX10_of 10 2 (s_if1 (fun x => x < 0) (s_al 0 (s_cv X yX10_thinks 10 0 (s_al 0 (s_gr 10 0 (s_push (.int (2)) (s_ald 0 (s_is 2 (s_push (.int (-1000000005)) (s_is 3 (s_il 2 (s_is 4 (mh_G X 40)))))))))))) (s_push (.int (-1000000002)) (s_iret X))))))) (s_push (.int (-1000000001)) (s_iret X)))))
theorem b_X10_latest_0 {E : mh_E} {d mc ms : Nat} {Post : Option Value → mh_H → Prop} : mh_S (x_X10_latest E d mc ms Post) 0 (q_X10_latest_0 (x_X10_latest E d mc ms Post)) := sn_aload_n dX10_latest_0 rfl (sn_iload_n dX10_latest_1 rfl (sn_cv w_1230 w_1232 w_23 w_66 rfl nm_X10_isStone dX10_latest_2 (sn_if_ne (tgt := 11) dX10_latest_5 (by decide) (sn_aload_n dX10_latest_11 rfl (sn_iload_n dX10_latest_12 rfl (sn_iconst dX10_latest_13 (by decide) (sn_cv w_1234 w_1236 w_24 w_66 rfl nm_X10_of dX10_latest_14 (sn_if_lt (tgt := 23) dX10_latest_17 (by decide) (sn_aload_n dX10_latest_23 rfl (sn_cv w_1374 w_1376 w_41 w_66 rfl nm_X10_thinks dX10_latest_24 (sn_aload_n dX10_latest_27 rfl (sn_getr clX10 (by decide) w_1100 dX10_latest_28 (sn_iconst dX10_latest_31 (by decide) (sn_iaload dX10_latest_32 (sn_istore_n dX10_latest_33 rfl (Nat.le_of_ble_eq_true rfl) (sn_ldc dX10_latest_34 w_1238 (sn_istore_n dX10_latest_36 rfl (Nat.le_of_ble_eq_true rfl) (sn_iload_n dX10_latest_37 rfl (sn_istore dX10_latest_38 (Nat.le_of_ble_eq_true rfl) mh_S.G))))))))))) (sn_ldc dX10_latest_20 w_1302 (sn_iret rfl dX10_latest_22))))))) (sn_ldc dX10_latest_8 w_1216 (sn_iret rfl dX10_latest_10)))))
theorem m_X10_latest {E : mh_E} {d mc ms : Nat} {args : List Value} {h : mh_H} {Post : Option Value → mh_H → Prop} (lv : List (Option Value)) (hl : lv_args 0 args = mh_al 0 lv) (hs : (lg_sl args).length ≤ 5) (hG : q_X10_latest_0 (x_X10_latest E d mc ms Post) lv [] h 0 0) : mh_M E d mc ms yX10_latest args h Post := mh_M.of w_1421 (by decide) (by decide) hl hs (b_X10_latest_0 _ _ _ _ _ hG)
theorem dX10_nameOf_0 : decode cX10_nameOf 0 = .ok (.aload_n 0, 1) := by decide +kernel
theorem dX10_nameOf_1 : decode cX10_nameOf 1 = .ok (.getfield 215, 3) := by decide +kernel
theorem dX10_nameOf_4 : decode cX10_nameOf 4 = .ok (.lookupswitch 82 #[(0, 28), (1, 60)], 28) := by decide +kernel
theorem dX10_nameOf_32 : decode cX10_nameOf 32 = .ok (.iload_n 1, 1) := by decide +kernel
theorem dX10_nameOf_33 : decode cX10_nameOf 33 = .ok (.bipush 119, 2) := by decide +kernel
theorem dX10_nameOf_35 : decode cX10_nameOf 35 = .ok (.if_icmp .ne 7, 3) := by decide +kernel
theorem dX10_nameOf_38 : decode cX10_nameOf 38 = .ok (.iconst 0, 1) := by decide +kernel
theorem dX10_nameOf_39 : decode cX10_nameOf 39 = .ok (.goto 24, 3) := by decide +kernel
theorem dX10_nameOf_42 : decode cX10_nameOf 42 = .ok (.iload_n 1, 1) := by decide +kernel
theorem dX10_nameOf_43 : decode cX10_nameOf 43 = .ok (.bipush 121, 2) := by decide +kernel
theorem dX10_nameOf_45 : decode cX10_nameOf 45 = .ok (.if_icmp .ne 7, 3) := by decide +kernel
theorem dX10_nameOf_48 : decode cX10_nameOf 48 = .ok (.iconst 1, 1) := by decide +kernel
theorem dX10_nameOf_49 : decode cX10_nameOf 49 = .ok (.goto 14, 3) := by decide +kernel
theorem dX10_nameOf_52 : decode cX10_nameOf 52 = .ok (.iload_n 1, 1) := by decide +kernel
theorem dX10_nameOf_53 : decode cX10_nameOf 53 = .ok (.bipush 108, 2) := by decide +kernel
theorem dX10_nameOf_55 : decode cX10_nameOf 55 = .ok (.if_icmp .ne 7, 3) := by decide +kernel
theorem dX10_nameOf_58 : decode cX10_nameOf 58 = .ok (.iconst 2, 1) := by decide +kernel
theorem dX10_nameOf_59 : decode cX10_nameOf 59 = .ok (.goto 4, 3) := by decide +kernel
theorem dX10_nameOf_62 : decode cX10_nameOf 62 = .ok (.iconst (-1), 1) := by decide +kernel
theorem dX10_nameOf_63 : decode cX10_nameOf 63 = .ok (.ireturn, 1) := by decide +kernel
theorem dX10_nameOf_64 : decode cX10_nameOf 64 = .ok (.iload_n 1, 1) := by decide +kernel
theorem dX10_nameOf_65 : decode cX10_nameOf 65 = .ok (.bipush 99, 2) := by decide +kernel
theorem dX10_nameOf_67 : decode cX10_nameOf 67 = .ok (.if_icmp .ne 7, 3) := by decide +kernel
theorem dX10_nameOf_70 : decode cX10_nameOf 70 = .ok (.iconst 0, 1) := by decide +kernel
theorem dX10_nameOf_71 : decode cX10_nameOf 71 = .ok (.goto 14, 3) := by decide +kernel
theorem dX10_nameOf_74 : decode cX10_nameOf 74 = .ok (.iload_n 1, 1) := by decide +kernel
theorem dX10_nameOf_75 : decode cX10_nameOf 75 = .ok (.bipush 109, 2) := by decide +kernel
theorem dX10_nameOf_77 : decode cX10_nameOf 77 = .ok (.if_icmp .ne 7, 3) := by decide +kernel
theorem dX10_nameOf_80 : decode cX10_nameOf 80 = .ok (.iconst 1, 1) := by decide +kernel
theorem dX10_nameOf_81 : decode cX10_nameOf 81 = .ok (.goto 4, 3) := by decide +kernel
theorem dX10_nameOf_84 : decode cX10_nameOf 84 = .ok (.iconst (-1), 1) := by decide +kernel
theorem dX10_nameOf_85 : decode cX10_nameOf 85 = .ok (.ireturn, 1) := by decide +kernel
theorem dX10_nameOf_86 : decode cX10_nameOf 86 = .ok (.iload_n 1, 1) := by decide +kernel
theorem dX10_nameOf_87 : decode cX10_nameOf 87 = .ok (.bipush 119, 2) := by decide +kernel
theorem dX10_nameOf_89 : decode cX10_nameOf 89 = .ok (.if_icmp .ne 7, 3) := by decide +kernel
theorem dX10_nameOf_92 : decode cX10_nameOf 92 = .ok (.iconst 0, 1) := by decide +kernel
theorem dX10_nameOf_93 : decode cX10_nameOf 93 = .ok (.goto 14, 3) := by decide +kernel
theorem dX10_nameOf_96 : decode cX10_nameOf 96 = .ok (.iload_n 1, 1) := by decide +kernel
theorem dX10_nameOf_97 : decode cX10_nameOf 97 = .ok (.bipush 114, 2) := by decide +kernel
theorem dX10_nameOf_99 : decode cX10_nameOf 99 = .ok (.if_icmp .ne 7, 3) := by decide +kernel
theorem dX10_nameOf_102 : decode cX10_nameOf 102 = .ok (.iconst 1, 1) := by decide +kernel
theorem dX10_nameOf_103 : decode cX10_nameOf 103 = .ok (.goto 4, 3) := by decide +kernel
theorem dX10_nameOf_106 : decode cX10_nameOf 106 = .ok (.iconst (-1), 1) := by decide +kernel
theorem dX10_nameOf_107 : decode cX10_nameOf 107 = .ok (.ireturn, 1) := by decide +kernel
abbrev x_X10_nameOf (E : mh_E) (d mc ms : Nat) (Post : Option Value → mh_H → Prop) : mh_X := (E, yX10_nameOf, cX10_nameOf, 2, (some .int), d, mc, ms, Post)
def q_X10_nameOf_107 (X : mh_X) : mh_PR := s_iret X
theorem b_X10_nameOf_107 {E : mh_E} {d mc ms : Nat} {Post : Option Value → mh_H → Prop} : mh_S (x_X10_nameOf E d mc ms Post) 107 (q_X10_nameOf_107 (x_X10_nameOf E d mc ms Post)) := sn_iret rfl dX10_nameOf_107
def q_X10_nameOf_85 (X : mh_X) : mh_PR := s_iret X
theorem b_X10_nameOf_85 {E : mh_E} {d mc ms : Nat} {Post : Option Value → mh_H → Prop} : mh_S (x_X10_nameOf E d mc ms Post) 85 (q_X10_nameOf_85 (x_X10_nameOf E d mc ms Post)) := sn_iret rfl dX10_nameOf_85
def q_X10_nameOf_63 (X : mh_X) : mh_PR := s_iret X
theorem b_X10_nameOf_63 {E : mh_E} {d mc ms : Nat} {Post : Option Value → mh_H → Prop} : mh_S (x_X10_nameOf E d mc ms Post) 63 (q_X10_nameOf_63 (x_X10_nameOf E d mc ms Post)) := sn_iret rfl dX10_nameOf_63
def q_X10_nameOf_0 (X : mh_X) : mh_PR := s_al 0 (s_gi 10 13 (s_sw [((0 : Int32), s_il 1 (s_push (.int (119)) (s_if2 (fun x y => ¬ x = y) (s_il 1 (s_push (.int (121)) (s_if2 (fun x y => ¬ x = y) (s_il 1 (s_push (.int (108)) (s_if2 (fun x y => ¬ x = y) (s_push (.int (-1)) (q_X10_nameOf_63 X)) (s_push (.int (2)) (q_X10_nameOf_63 X))))) (s_push (.int (1)) (q_X10_nameOf_63 X))))) (s_push (.int (0)) (q_X10_nameOf_63 X))))), ((1 : Int32), s_il 1 (s_push (.int (99)) (s_if2 (fun x y => ¬ x = y) (s_il 1 (s_push (.int (109)) (s_if2 (fun x y => ¬ x = y) (s_push (.int (-1)) (q_X10_nameOf_85 X)) (s_push (.int (1)) (q_X10_nameOf_85 X))))) (s_push (.int (0)) (q_X10_nameOf_85 X)))))] (s_il 1 (s_push (.int (119)) (s_if2 (fun x y => ¬ x = y) (s_il 1 (s_push (.int (114)) (s_if2 (fun x y => ¬ x = y) (s_push (.int (-1)) (q_X10_nameOf_107 X)) (s_push (.int (1)) (q_X10_nameOf_107 X))))) (s_push (.int (0)) (q_X10_nameOf_107 X)))))))
theorem b_X10_nameOf_0 {E : mh_E} {d mc ms : Nat} {Post : Option Value → mh_H → Prop} : mh_S (x_X10_nameOf E d mc ms Post) 0 (q_X10_nameOf_0 (x_X10_nameOf E d mc ms Post)) := sn_aload_n dX10_nameOf_0 rfl (sn_geti clX10 (by decide) w_1113 dX10_nameOf_1 (sn_lookup (tgt := 86) (ts := [(0, 28, 32), (1, 60, 64)]) dX10_nameOf_4 (by decide +kernel) (by decide +kernel) (by decide +kernel) (sw_cons (sn_iload_n dX10_nameOf_32 rfl (sn_bipush dX10_nameOf_33 (by decide) (sn_icmp_ne (tgt := 42) dX10_nameOf_35 (by decide) (sn_iload_n dX10_nameOf_42 rfl (sn_bipush dX10_nameOf_43 (by decide) (sn_icmp_ne (tgt := 52) dX10_nameOf_45 (by decide) (sn_iload_n dX10_nameOf_52 rfl (sn_bipush dX10_nameOf_53 (by decide) (sn_icmp_ne (tgt := 62) dX10_nameOf_55 (by decide) (sn_iconst dX10_nameOf_62 (by decide) b_X10_nameOf_63) (sn_iconst dX10_nameOf_58 (by decide) (sn_goto (tgt := 63) dX10_nameOf_59 (by decide) (b_X10_nameOf_63)))))) (sn_iconst dX10_nameOf_48 (by decide) (sn_goto (tgt := 63) dX10_nameOf_49 (by decide) (b_X10_nameOf_63)))))) (sn_iconst dX10_nameOf_38 (by decide) (sn_goto (tgt := 63) dX10_nameOf_39 (by decide) (b_X10_nameOf_63)))))) (sw_cons (sn_iload_n dX10_nameOf_64 rfl (sn_bipush dX10_nameOf_65 (by decide) (sn_icmp_ne (tgt := 74) dX10_nameOf_67 (by decide) (sn_iload_n dX10_nameOf_74 rfl (sn_bipush dX10_nameOf_75 (by decide) (sn_icmp_ne (tgt := 84) dX10_nameOf_77 (by decide) (sn_iconst dX10_nameOf_84 (by decide) b_X10_nameOf_85) (sn_iconst dX10_nameOf_80 (by decide) (sn_goto (tgt := 85) dX10_nameOf_81 (by decide) (b_X10_nameOf_85)))))) (sn_iconst dX10_nameOf_70 (by decide) (sn_goto (tgt := 85) dX10_nameOf_71 (by decide) (b_X10_nameOf_85)))))) sw_nil)) (by decide) (sn_iload_n dX10_nameOf_86 rfl (sn_bipush dX10_nameOf_87 (by decide) (sn_icmp_ne (tgt := 96) dX10_nameOf_89 (by decide) (sn_iload_n dX10_nameOf_96 rfl (sn_bipush dX10_nameOf_97 (by decide) (sn_icmp_ne (tgt := 106) dX10_nameOf_99 (by decide) (sn_iconst dX10_nameOf_106 (by decide) b_X10_nameOf_107) (sn_iconst dX10_nameOf_102 (by decide) (sn_goto (tgt := 107) dX10_nameOf_103 (by decide) (b_X10_nameOf_107)))))) (sn_iconst dX10_nameOf_92 (by decide) (sn_goto (tgt := 107) dX10_nameOf_93 (by decide) (b_X10_nameOf_107))))))))
theorem m_X10_nameOf {E : mh_E} {d mc ms : Nat} {args : List Value} {h : mh_H} {Post : Option Value → mh_H → Prop} (lv : List (Option Value)) (hl : lv_args 0 args = mh_al 0 lv) (hs : (lg_sl args).length ≤ 2) (hG : q_X10_nameOf_0 (x_X10_nameOf E d mc ms Post) lv [] h 0 0) : mh_M E d mc ms yX10_nameOf args h Post := mh_M.of w_1477 (by decide) (by decide) hl hs (b_X10_nameOf_0 _ _ _ _ _ hG)
theorem dX10_rank_0 : decode cX10_rank 0 = .ok (.iload_n 0, 1) := by decide +kernel
theorem dX10_rank_1 : decode cX10_rank 1 = .ok (.iconst (-1), 1) := by decide +kernel
theorem dX10_rank_2 : decode cX10_rank 2 = .ok (.if_icmp .ne 7, 3) := by decide +kernel
theorem dX10_rank_5 : decode cX10_rank 5 = .ok (.iconst 1, 1) := by decide +kernel
theorem dX10_rank_6 : decode cX10_rank 6 = .ok (.goto 45, 3) := by decide +kernel
theorem dX10_rank_9 : decode cX10_rank 9 = .ok (.iload_n 0, 1) := by decide +kernel
theorem dX10_rank_10 : decode cX10_rank 10 = .ok (.bipush (-2), 2) := by decide +kernel
theorem dX10_rank_12 : decode cX10_rank 12 = .ok (.if_icmp .ne 7, 3) := by decide +kernel
theorem dX10_rank_15 : decode cX10_rank 15 = .ok (.iconst 2, 1) := by decide +kernel
theorem dX10_rank_16 : decode cX10_rank 16 = .ok (.goto 35, 3) := by decide +kernel
theorem dX10_rank_19 : decode cX10_rank 19 = .ok (.iload_n 0, 1) := by decide +kernel
theorem dX10_rank_20 : decode cX10_rank 20 = .ok (.bipush (-5), 2) := by decide +kernel
theorem dX10_rank_22 : decode cX10_rank 22 = .ok (.if_icmp .lt 7, 3) := by decide +kernel
theorem dX10_rank_25 : decode cX10_rank 25 = .ok (.iconst 3, 1) := by decide +kernel
theorem dX10_rank_26 : decode cX10_rank 26 = .ok (.goto 25, 3) := by decide +kernel
theorem dX10_rank_29 : decode cX10_rank 29 = .ok (.iload_n 0, 1) := by decide +kernel
theorem dX10_rank_30 : decode cX10_rank 30 = .ok (.bipush (-7), 2) := by decide +kernel
theorem dX10_rank_32 : decode cX10_rank 32 = .ok (.if_icmp .lt 7, 3) := by decide +kernel
theorem dX10_rank_35 : decode cX10_rank 35 = .ok (.iconst 4, 1) := by decide +kernel
theorem dX10_rank_36 : decode cX10_rank 36 = .ok (.goto 15, 3) := by decide +kernel
theorem dX10_rank_39 : decode cX10_rank 39 = .ok (.iload_n 0, 1) := by decide +kernel
theorem dX10_rank_40 : decode cX10_rank 40 = .ok (.bipush (-9), 2) := by decide +kernel
theorem dX10_rank_42 : decode cX10_rank 42 = .ok (.if_icmp .lt 7, 3) := by decide +kernel
theorem dX10_rank_45 : decode cX10_rank 45 = .ok (.iconst 5, 1) := by decide +kernel
theorem dX10_rank_46 : decode cX10_rank 46 = .ok (.goto 5, 3) := by decide +kernel
theorem dX10_rank_49 : decode cX10_rank 49 = .ok (.bipush 6, 2) := by decide +kernel
theorem dX10_rank_51 : decode cX10_rank 51 = .ok (.ireturn, 1) := by decide +kernel
abbrev x_X10_rank (E : mh_E) (d mc ms : Nat) (Post : Option Value → mh_H → Prop) : mh_X := (E, yX10_rank, cX10_rank, 1, (some .int), d, mc, ms, Post)
def q_X10_rank_51 (X : mh_X) : mh_PR := s_iret X
theorem b_X10_rank_51 {E : mh_E} {d mc ms : Nat} {Post : Option Value → mh_H → Prop} : mh_S (x_X10_rank E d mc ms Post) 51 (q_X10_rank_51 (x_X10_rank E d mc ms Post)) := sn_iret rfl dX10_rank_51
def q_X10_rank_0 (X : mh_X) : mh_PR := s_il 0 (s_push (.int (-1)) (s_if2 (fun x y => ¬ x = y) (s_il 0 (s_push (.int (-2)) (s_if2 (fun x y => ¬ x = y) (s_il 0 (s_push (.int (-5)) (s_if2 (fun x y => x < y) (s_il 0 (s_push (.int (-7)) (s_if2 (fun x y => x < y) (s_il 0 (s_push (.int (-9)) (s_if2 (fun x y => x < y) (s_push (.int (6)) (q_X10_rank_51 X)) (s_push (.int (5)) (q_X10_rank_51 X))))) (s_push (.int (4)) (q_X10_rank_51 X))))) (s_push (.int (3)) (q_X10_rank_51 X))))) (s_push (.int (2)) (q_X10_rank_51 X))))) (s_push (.int (1)) (q_X10_rank_51 X))))
theorem b_X10_rank_0 {E : mh_E} {d mc ms : Nat} {Post : Option Value → mh_H → Prop} : mh_S (x_X10_rank E d mc ms Post) 0 (q_X10_rank_0 (x_X10_rank E d mc ms Post)) := sn_iload_n dX10_rank_0 rfl (sn_iconst dX10_rank_1 (by decide) (sn_icmp_ne (tgt := 9) dX10_rank_2 (by decide) (sn_iload_n dX10_rank_9 rfl (sn_bipush dX10_rank_10 (by decide) (sn_icmp_ne (tgt := 19) dX10_rank_12 (by decide) (sn_iload_n dX10_rank_19 rfl (sn_bipush dX10_rank_20 (by decide) (sn_icmp_lt (tgt := 29) dX10_rank_22 (by decide) (sn_iload_n dX10_rank_29 rfl (sn_bipush dX10_rank_30 (by decide) (sn_icmp_lt (tgt := 39) dX10_rank_32 (by decide) (sn_iload_n dX10_rank_39 rfl (sn_bipush dX10_rank_40 (by decide) (sn_icmp_lt (tgt := 49) dX10_rank_42 (by decide) (sn_bipush dX10_rank_49 (by decide) b_X10_rank_51) (sn_iconst dX10_rank_45 (by decide) (sn_goto (tgt := 51) dX10_rank_46 (by decide) (b_X10_rank_51)))))) (sn_iconst dX10_rank_35 (by decide) (sn_goto (tgt := 51) dX10_rank_36 (by decide) (b_X10_rank_51)))))) (sn_iconst dX10_rank_25 (by decide) (sn_goto (tgt := 51) dX10_rank_26 (by decide) (b_X10_rank_51)))))) (sn_iconst dX10_rank_15 (by decide) (sn_goto (tgt := 51) dX10_rank_16 (by decide) (b_X10_rank_51)))))) (sn_iconst dX10_rank_5 (by decide) (sn_goto (tgt := 51) dX10_rank_6 (by decide) (b_X10_rank_51)))))
theorem m_X10_rank {E : mh_E} {d mc ms : Nat} {args : List Value} {h : mh_H} {Post : Option Value → mh_H → Prop} (lv : List (Option Value)) (hl : lv_args 0 args = mh_al 0 lv) (hs : (lg_sl args).length ≤ 1) (hG : q_X10_rank_0 (x_X10_rank E d mc ms Post) lv [] h 0 0) : mh_M E d mc ms yX10_rank args h Post := mh_M.of w_1484 (by decide) (by decide) hl hs (b_X10_rank_0 _ _ _ _ _ hG)
theorem dX10_notsOpen_0 : decode cX10_notsOpen 0 = .ok (.iconst 0, 1) := by decide +kernel
theorem dX10_notsOpen_1 : decode cX10_notsOpen 1 = .ok (.istore_n 1, 1) := by decide +kernel
theorem dX10_notsOpen_2 : decode cX10_notsOpen 2 = .ok (.iconst 0, 1) := by decide +kernel
theorem dX10_notsOpen_3 : decode cX10_notsOpen 3 = .ok (.istore_n 2, 1) := by decide +kernel
theorem dX10_notsOpen_4 : decode cX10_notsOpen 4 = .ok (.iload_n 2, 1) := by decide +kernel
theorem dX10_notsOpen_5 : decode cX10_notsOpen 5 = .ok (.aload_n 0, 1) := by decide +kernel
theorem dX10_notsOpen_6 : decode cX10_notsOpen 6 = .ok (.getfield 221, 3) := by decide +kernel
theorem dX10_notsOpen_9 : decode cX10_notsOpen 9 = .ok (.if_icmp .ge 28, 3) := by decide +kernel
theorem dX10_notsOpen_12 : decode cX10_notsOpen 12 = .ok (.iload_n 1, 1) := by decide +kernel
theorem dX10_notsOpen_13 : decode cX10_notsOpen 13 = .ok (.aload_n 0, 1) := by decide +kernel
theorem dX10_notsOpen_14 : decode cX10_notsOpen 14 = .ok (.getfield 39, 3) := by decide +kernel
theorem dX10_notsOpen_17 : decode cX10_notsOpen 17 = .ok (.iload_n 2, 1) := by decide +kernel
theorem dX10_notsOpen_18 : decode cX10_notsOpen 18 = .ok (.iaload, 1) := by decide +kernel
theorem dX10_notsOpen_19 : decode cX10_notsOpen 19 = .ok (.bipush (-10), 2) := by decide +kernel
theorem dX10_notsOpen_21 : decode cX10_notsOpen 21 = .ok (.if_icmp .ne 7, 3) := by decide +kernel
theorem dX10_notsOpen_24 : decode cX10_notsOpen 24 = .ok (.iconst 1, 1) := by decide +kernel
theorem dX10_notsOpen_25 : decode cX10_notsOpen 25 = .ok (.goto 4, 3) := by decide +kernel
theorem dX10_notsOpen_28 : decode cX10_notsOpen 28 = .ok (.iconst 0, 1) := by decide +kernel
theorem dX10_notsOpen_29 : decode cX10_notsOpen 29 = .ok (.iadd, 1) := by decide +kernel
theorem dX10_notsOpen_30 : decode cX10_notsOpen 30 = .ok (.istore_n 1, 1) := by decide +kernel
theorem dX10_notsOpen_31 : decode cX10_notsOpen 31 = .ok (.iinc 2 1, 3) := by decide +kernel
theorem dX10_notsOpen_34 : decode cX10_notsOpen 34 = .ok (.goto (-30), 3) := by decide +kernel
theorem dX10_notsOpen_37 : decode cX10_notsOpen 37 = .ok (.iload_n 1, 1) := by decide +kernel
theorem dX10_notsOpen_38 : decode cX10_notsOpen 38 = .ok (.ireturn, 1) := by decide +kernel
abbrev x_X10_notsOpen (E : mh_E) (d mc ms : Nat) (Post : Option Value → mh_H → Prop) : mh_X := (E, yX10_notsOpen, cX10_notsOpen, 3, (some .int), d, mc, ms, Post)
def q_X10_notsOpen_29 (X : mh_X) : mh_PR := s_bin (fun x y => x + y) (s_is 1 (s_inc 2 (1) (mh_G X 4)))
theorem b_X10_notsOpen_29 {E : mh_E} {d mc ms : Nat} {Post : Option Value → mh_H → Prop} : mh_S (x_X10_notsOpen E d mc ms Post) 29 (q_X10_notsOpen_29 (x_X10_notsOpen E d mc ms Post)) := sn_iadd dX10_notsOpen_29 (sn_istore_n dX10_notsOpen_30 rfl (Nat.le_of_ble_eq_true rfl) (sn_iinc dX10_notsOpen_31 (by decide) (Nat.le_of_ble_eq_true rfl) (sn_goto (tgt := 4) dX10_notsOpen_34 (by decide) (mh_S.G))))
def q_X10_notsOpen_4 (X : mh_X) : mh_PR := s_il 2 (s_al 0 (s_gi 10 20 (s_if2 (fun x y => y ≤ x) (s_il 1 (s_iret X)) (s_il 1 (s_al 0 (s_gr 10 19 (s_il 2 (s_ald 0 (s_push (.int (-10)) (s_if2 (fun x y => ¬ x = y) (s_push (.int (0)) (q_X10_notsOpen_29 X)) (s_push (.int (1)) (q_X10_notsOpen_29 X))))))))))))
theorem b_X10_notsOpen_4 {E : mh_E} {d mc ms : Nat} {Post : Option Value → mh_H → Prop} : mh_S (x_X10_notsOpen E d mc ms Post) 4 (q_X10_notsOpen_4 (x_X10_notsOpen E d mc ms Post)) := sn_iload_n dX10_notsOpen_4 rfl (sn_aload_n dX10_notsOpen_5 rfl (sn_geti clX10 (by decide) w_1120 dX10_notsOpen_6 (sn_icmp_ge (tgt := 37) dX10_notsOpen_9 (by decide) (sn_iload_n dX10_notsOpen_37 rfl (sn_iret rfl dX10_notsOpen_38)) (sn_iload_n dX10_notsOpen_12 rfl (sn_aload_n dX10_notsOpen_13 rfl (sn_getr clX10 (by decide) w_1119 dX10_notsOpen_14 (sn_iload_n dX10_notsOpen_17 rfl (sn_iaload dX10_notsOpen_18 (sn_bipush dX10_notsOpen_19 (by decide) (sn_icmp_ne (tgt := 28) dX10_notsOpen_21 (by decide) (sn_iconst dX10_notsOpen_28 (by decide) b_X10_notsOpen_29) (sn_iconst dX10_notsOpen_24 (by decide) (sn_goto (tgt := 29) dX10_notsOpen_25 (by decide) (b_X10_notsOpen_29)))))))))))))
def q_X10_notsOpen_0 (X : mh_X) : mh_PR := s_push (.int (0)) (s_is 1 (s_push (.int (0)) (s_is 2 (mh_G X 4))))
theorem b_X10_notsOpen_0 {E : mh_E} {d mc ms : Nat} {Post : Option Value → mh_H → Prop} : mh_S (x_X10_notsOpen E d mc ms Post) 0 (q_X10_notsOpen_0 (x_X10_notsOpen E d mc ms Post)) := sn_iconst dX10_notsOpen_0 (by decide) (sn_istore_n dX10_notsOpen_1 rfl (Nat.le_of_ble_eq_true rfl) (sn_iconst dX10_notsOpen_2 (by decide) (sn_istore_n dX10_notsOpen_3 rfl (Nat.le_of_ble_eq_true rfl) mh_S.G)))
theorem m_X10_notsOpen {E : mh_E} {d mc ms : Nat} {args : List Value} {h : mh_H} {Post : Option Value → mh_H → Prop} (lv : List (Option Value)) (hl : lv_args 0 args = mh_al 0 lv) (hs : (lg_sl args).length ≤ 3) (hG : q_X10_notsOpen_0 (x_X10_notsOpen E d mc ms Post) lv [] h 0 0) : mh_M E d mc ms yX10_notsOpen args h Post := mh_M.of w_1488 (by decide) (by decide) hl hs (b_X10_notsOpen_0 _ _ _ _ _ hG)
theorem dX10_mark_0 : decode cX10_mark 0 = .ok (.iload_n 1, 1) := by decide +kernel
theorem dX10_mark_1 : decode cX10_mark 1 = .ok (.invokestatic 186, 3) := by decide +kernel
theorem dX10_mark_4 : decode cX10_mark 4 = .ok (.ifCond .ne 6, 3) := by decide +kernel
theorem dX10_mark_7 : decode cX10_mark 7 = .ok (.ldc 91, 2) := by decide +kernel
theorem dX10_mark_9 : decode cX10_mark 9 = .ok (.ireturn, 1) := by decide +kernel
theorem dX10_mark_10 : decode cX10_mark 10 = .ok (.aload_n 0, 1) := by decide +kernel
theorem dX10_mark_11 : decode cX10_mark 11 = .ok (.getfield 52, 3) := by decide +kernel
theorem dX10_mark_14 : decode cX10_mark 14 = .ok (.iload_n 1, 1) := by decide +kernel
theorem dX10_mark_15 : decode cX10_mark 15 = .ok (.iaload, 1) := by decide +kernel
theorem dX10_mark_16 : decode cX10_mark 16 = .ok (.ifCond .ge 6, 3) := by decide +kernel
theorem dX10_mark_19 : decode cX10_mark 19 = .ok (.ldc 189, 2) := by decide +kernel
theorem dX10_mark_21 : decode cX10_mark 21 = .ok (.ireturn, 1) := by decide +kernel
theorem dX10_mark_22 : decode cX10_mark 22 = .ok (.iload_n 2, 1) := by decide +kernel
theorem dX10_mark_23 : decode cX10_mark 23 = .ok (.iconst 0, 1) := by decide +kernel
theorem dX10_mark_24 : decode cX10_mark 24 = .ok (.aload_n 0, 1) := by decide +kernel
theorem dX10_mark_25 : decode cX10_mark 25 = .ok (.getfield 55, 3) := by decide +kernel
theorem dX10_mark_28 : decode cX10_mark 28 = .ok (.iload_n 1, 1) := by decide +kernel
theorem dX10_mark_29 : decode cX10_mark 29 = .ok (.iaload, 1) := by decide +kernel
theorem dX10_mark_30 : decode cX10_mark 30 = .ok (.iconst 1, 1) := by decide +kernel
theorem dX10_mark_31 : decode cX10_mark 31 = .ok (.isub, 1) := by decide +kernel
theorem dX10_mark_32 : decode cX10_mark 32 = .ok (.invokestatic 79, 3) := by decide +kernel
theorem dX10_mark_35 : decode cX10_mark 35 = .ok (.ifCond .ne 7, 3) := by decide +kernel
theorem dX10_mark_38 : decode cX10_mark 38 = .ok (.ldc_w 259, 3) := by decide +kernel
theorem dX10_mark_41 : decode cX10_mark 41 = .ok (.ireturn, 1) := by decide +kernel
theorem dX10_mark_42 : decode cX10_mark 42 = .ok (.aload_n 0, 1) := by decide +kernel
theorem dX10_mark_43 : decode cX10_mark 43 = .ok (.getfield 52, 3) := by decide +kernel
theorem dX10_mark_46 : decode cX10_mark 46 = .ok (.iload_n 1, 1) := by decide +kernel
theorem dX10_mark_47 : decode cX10_mark 47 = .ok (.iaload, 1) := by decide +kernel
theorem dX10_mark_48 : decode cX10_mark 48 = .ok (.ifCond .ne 12, 3) := by decide +kernel
theorem dX10_mark_51 : decode cX10_mark 51 = .ok (.iload_n 3, 1) := by decide +kernel
theorem dX10_mark_52 : decode cX10_mark 52 = .ok (.ldc 126, 2) := by decide +kernel
theorem dX10_mark_54 : decode cX10_mark 54 = .ok (.if_icmp .ne 6, 3) := by decide +kernel
theorem dX10_mark_57 : decode cX10_mark 57 = .ok (.ldc 139, 2) := by decide +kernel
theorem dX10_mark_59 : decode cX10_mark 59 = .ok (.ireturn, 1) := by decide +kernel
theorem dX10_mark_60 : decode cX10_mark 60 = .ok (.aload_n 0, 1) := by decide +kernel
theorem dX10_mark_61 : decode cX10_mark 61 = .ok (.getfield 52, 3) := by decide +kernel
theorem dX10_mark_64 : decode cX10_mark 64 = .ok (.iload_n 1, 1) := by decide +kernel
theorem dX10_mark_65 : decode cX10_mark 65 = .ok (.iaload, 1) := by decide +kernel
theorem dX10_mark_66 : decode cX10_mark 66 = .ok (.iconst 1, 1) := by decide +kernel
theorem dX10_mark_67 : decode cX10_mark 67 = .ok (.if_icmp .ne 24, 3) := by decide +kernel
theorem dX10_mark_70 : decode cX10_mark 70 = .ok (.iload_n 3, 1) := by decide +kernel
theorem dX10_mark_71 : decode cX10_mark 71 = .ok (.ldc 126, 2) := by decide +kernel
theorem dX10_mark_73 : decode cX10_mark 73 = .ok (.if_icmp .eq 18, 3) := by decide +kernel
theorem dX10_mark_76 : decode cX10_mark 76 = .ok (.iload_n 3, 1) := by decide +kernel
theorem dX10_mark_77 : decode cX10_mark 77 = .ok (.ldc_w 260, 3) := by decide +kernel
theorem dX10_mark_80 : decode cX10_mark 80 = .ok (.ldc 115, 2) := by decide +kernel
theorem dX10_mark_82 : decode cX10_mark 82 = .ok (.invokestatic 79, 3) := by decide +kernel
theorem dX10_mark_85 : decode cX10_mark 85 = .ok (.ifCond .ne 6, 3) := by decide +kernel
theorem dX10_mark_88 : decode cX10_mark 88 = .ok (.ldc 91, 2) := by decide +kernel
theorem dX10_mark_90 : decode cX10_mark 90 = .ok (.ireturn, 1) := by decide +kernel
theorem dX10_mark_91 : decode cX10_mark 91 = .ok (.aload_n 0, 1) := by decide +kernel
theorem dX10_mark_92 : decode cX10_mark 92 = .ok (.getfield 58, 3) := by decide +kernel
theorem dX10_mark_95 : decode cX10_mark 95 = .ok (.bipush 24, 2) := by decide +kernel
theorem dX10_mark_97 : decode cX10_mark 97 = .ok (.iload_n 1, 1) := by decide +kernel
theorem dX10_mark_98 : decode cX10_mark 98 = .ok (.imul, 1) := by decide +kernel
theorem dX10_mark_99 : decode cX10_mark 99 = .ok (.iload_n 2, 1) := by decide +kernel
theorem dX10_mark_100 : decode cX10_mark 100 = .ok (.iadd, 1) := by decide +kernel
theorem dX10_mark_101 : decode cX10_mark 101 = .ok (.aload_n 0, 1) := by decide +kernel
theorem dX10_mark_102 : decode cX10_mark 102 = .ok (.getfield 52, 3) := by decide +kernel
theorem dX10_mark_105 : decode cX10_mark 105 = .ok (.iload_n 1, 1) := by decide +kernel
theorem dX10_mark_106 : decode cX10_mark 106 = .ok (.iaload, 1) := by decide +kernel
theorem dX10_mark_107 : decode cX10_mark 107 = .ok (.ifCond .ne 8, 3) := by decide +kernel
theorem dX10_mark_110 : decode cX10_mark 110 = .ok (.iload_n 3, 1) := by decide +kernel
theorem dX10_mark_111 : decode cX10_mark 111 = .ok (.i2s, 1) := by decide +kernel
theorem dX10_mark_112 : decode cX10_mark 112 = .ok (.goto 4, 3) := by decide +kernel
theorem dX10_mark_115 : decode cX10_mark 115 = .ok (.iload_n 3, 1) := by decide +kernel
theorem dX10_mark_116 : decode cX10_mark 116 = .ok (.iastore, 1) := by decide +kernel
theorem dX10_mark_117 : decode cX10_mark 117 = .ok (.iconst 1, 1) := by decide +kernel
theorem dX10_mark_118 : decode cX10_mark 118 = .ok (.ireturn, 1) := by decide +kernel
abbrev x_X10_mark (E : mh_E) (d mc ms : Nat) (Post : Option Value → mh_H → Prop) : mh_X := (E, yX10_mark, cX10_mark, 4, (some .int), d, mc, ms, Post)
def q_X10_mark_116 (X : mh_X) : mh_PR := s_ast 0 (fun x => x) (s_push (.int (1)) (s_iret X))
theorem b_X10_mark_116 {E : mh_E} {d mc ms : Nat} {Post : Option Value → mh_H → Prop} : mh_S (x_X10_mark E d mc ms Post) 116 (q_X10_mark_116 (x_X10_mark E d mc ms Post)) := sn_iastore dX10_mark_116 (sn_iconst dX10_mark_117 (by decide) (sn_iret rfl dX10_mark_118))
def q_X10_mark_91 (X : mh_X) : mh_PR := s_al 0 (s_gr 10 26 (s_push (.int (24)) (s_il 1 (s_bin (fun x y => x * y) (s_il 2 (s_bin (fun x y => x + y) (s_al 0 (s_gr 10 24 (s_il 1 (s_ald 0 (s_if1 (fun x => ¬ x = 0) (s_il 3 (q_X10_mark_116 X)) (s_il 3 (s_un (fun x => x.toInt16.toInt32) (q_X10_mark_116 X))))))))))))))
theorem b_X10_mark_91 {E : mh_E} {d mc ms : Nat} {Post : Option Value → mh_H → Prop} : mh_S (x_X10_mark E d mc ms Post) 91 (q_X10_mark_91 (x_X10_mark E d mc ms Post)) := sn_aload_n dX10_mark_91 rfl (sn_getr clX10 (by decide) w_1126 dX10_mark_92 (sn_bipush dX10_mark_95 (by decide) (sn_iload_n dX10_mark_97 rfl (sn_imul dX10_mark_98 (sn_iload_n dX10_mark_99 rfl (sn_iadd dX10_mark_100 (sn_aload_n dX10_mark_101 rfl (sn_getr clX10 (by decide) w_1124 dX10_mark_102 (sn_iload_n dX10_mark_105 rfl (sn_iaload dX10_mark_106 (sn_if_ne (tgt := 115) dX10_mark_107 (by decide) (sn_iload_n dX10_mark_115 rfl b_X10_mark_116) (sn_iload_n dX10_mark_110 rfl (sn_i2s dX10_mark_111 (sn_goto (tgt := 116) dX10_mark_112 (by decide) (b_X10_mark_116)))))))))))))))
def q_X10_mark_60 (X : mh_X) : mh_PR := s_al 0 (s_gr 10 24 (s_il 1 (s_ald 0 (s_push (.int (1)) (s_if2 (fun x y => ¬ x = y) (q_X10_mark_91 X) (s_il 3 (s_push (.int (-1000000005)) (s_if2 (fun x y => x = y) (q_X10_mark_91 X) (s_il 3 (s_push (.int (-99999)) (s_push (.int (99999)) (s_cs X yX10_in 3 (s_if1 (fun x => ¬ x = 0) (q_X10_mark_91 X) (s_push (.int (-1000000001)) (s_iret X)))))))))))))))
theorem b_X10_mark_60 {E : mh_E} {d mc ms : Nat} {Post : Option Value → mh_H → Prop} : mh_S (x_X10_mark E d mc ms Post) 60 (q_X10_mark_60 (x_X10_mark E d mc ms Post)) := sn_aload_n dX10_mark_60 rfl (sn_getr clX10 (by decide) w_1124 dX10_mark_61 (sn_iload_n dX10_mark_64 rfl (sn_iaload dX10_mark_65 (sn_iconst dX10_mark_66 (by decide) (sn_icmp_ne (tgt := 91) dX10_mark_67 (by decide) (b_X10_mark_91) (sn_iload_n dX10_mark_70 rfl (sn_ldc dX10_mark_71 w_1238 (sn_icmp_eq (tgt := 91) dX10_mark_73 (by decide) (b_X10_mark_91) (sn_iload_n dX10_mark_76 rfl (sn_ldcw dX10_mark_77 w_1511 (sn_ldc dX10_mark_80 w_1263 (sn_cs w_1210 w_1211 w_66 nm_X10_in dX10_mark_82 (sn_if_ne (tgt := 91) dX10_mark_85 (by decide) (b_X10_mark_91) (sn_ldc dX10_mark_88 w_1216 (sn_iret rfl dX10_mark_90)))))))))))))))
def q_X10_mark_0 (X : mh_X) : mh_PR := s_il 1 (s_cs X yX10_isSheet 1 (s_if1 (fun x => ¬ x = 0) (s_al 0 (s_gr 10 24 (s_il 1 (s_ald 0 (s_if1 (fun x => 0 ≤ x) (s_il 2 (s_push (.int (0)) (s_al 0 (s_gr 10 25 (s_il 1 (s_ald 0 (s_push (.int (1)) (s_bin (fun x y => x - y) (s_cs X yX10_in 3 (s_if1 (fun x => ¬ x = 0) (s_al 0 (s_gr 10 24 (s_il 1 (s_ald 0 (s_if1 (fun x => ¬ x = 0) (q_X10_mark_60 X) (s_il 3 (s_push (.int (-1000000005)) (s_if2 (fun x y => ¬ x = y) (q_X10_mark_60 X) (s_push (.int (-1000000012)) (s_iret X)))))))))) (s_push (.int (-1000000013)) (s_iret X)))))))))))) (s_push (.int (-1000000011)) (s_iret X))))))) (s_push (.int (-1000000001)) (s_iret X))))
theorem b_X10_mark_0 {E : mh_E} {d mc ms : Nat} {Post : Option Value → mh_H → Prop} : mh_S (x_X10_mark E d mc ms Post) 0 (q_X10_mark_0 (x_X10_mark E d mc ms Post)) := sn_iload_n dX10_mark_0 rfl (sn_cs w_1426 w_1427 w_66 nm_X10_isSheet dX10_mark_1 (sn_if_ne (tgt := 10) dX10_mark_4 (by decide) (sn_aload_n dX10_mark_10 rfl (sn_getr clX10 (by decide) w_1124 dX10_mark_11 (sn_iload_n dX10_mark_14 rfl (sn_iaload dX10_mark_15 (sn_if_ge (tgt := 22) dX10_mark_16 (by decide) (sn_iload_n dX10_mark_22 rfl (sn_iconst dX10_mark_23 (by decide) (sn_aload_n dX10_mark_24 rfl (sn_getr clX10 (by decide) w_1125 dX10_mark_25 (sn_iload_n dX10_mark_28 rfl (sn_iaload dX10_mark_29 (sn_iconst dX10_mark_30 (by decide) (sn_isub dX10_mark_31 (sn_cs w_1210 w_1211 w_66 nm_X10_in dX10_mark_32 (sn_if_ne (tgt := 42) dX10_mark_35 (by decide) (sn_aload_n dX10_mark_42 rfl (sn_getr clX10 (by decide) w_1124 dX10_mark_43 (sn_iload_n dX10_mark_46 rfl (sn_iaload dX10_mark_47 (sn_if_ne (tgt := 60) dX10_mark_48 (by decide) (b_X10_mark_60) (sn_iload_n dX10_mark_51 rfl (sn_ldc dX10_mark_52 w_1238 (sn_icmp_ne (tgt := 60) dX10_mark_54 (by decide) (b_X10_mark_60) (sn_ldc dX10_mark_57 w_1285 (sn_iret rfl dX10_mark_59)))))))))) (sn_ldcw dX10_mark_38 w_1510 (sn_iret rfl dX10_mark_41)))))))))))) (sn_ldc dX10_mark_19 w_1429 (sn_iret rfl dX10_mark_21))))))) (sn_ldc dX10_mark_7 w_1216 (sn_iret rfl dX10_mark_9))))
theorem m_X10_mark {E : mh_E} {d mc ms : Nat} {args : List Value} {h : mh_H} {Post : Option Value → mh_H → Prop} (lv : List (Option Value)) (hl : lv_args 0 args = mh_al 0 lv) (hs : (lg_sl args).length ≤ 4) (hG : q_X10_mark_0 (x_X10_mark E d mc ms Post) lv [] h 0 0) : mh_M E d mc ms yX10_mark args h Post := mh_M.of w_1509 (by decide) (by decide) hl hs (b_X10_mark_0 _ _ _ _ _ hG)
theorem dX10_pour_0 : decode cX10_pour 0 = .ok (.iload_n 1, 1) := by decide +kernel
theorem dX10_pour_1 : decode cX10_pour 1 = .ok (.invokestatic 186, 3) := by decide +kernel
theorem dX10_pour_4 : decode cX10_pour 4 = .ok (.ifCond .ne 6, 3) := by decide +kernel
theorem dX10_pour_7 : decode cX10_pour 7 = .ok (.ldc 91, 2) := by decide +kernel
theorem dX10_pour_9 : decode cX10_pour 9 = .ok (.ireturn, 1) := by decide +kernel
theorem dX10_pour_10 : decode cX10_pour 10 = .ok (.aload_n 0, 1) := by decide +kernel
theorem dX10_pour_11 : decode cX10_pour 11 = .ok (.getfield 52, 3) := by decide +kernel
theorem dX10_pour_14 : decode cX10_pour 14 = .ok (.iload_n 1, 1) := by decide +kernel
theorem dX10_pour_15 : decode cX10_pour 15 = .ok (.iaload, 1) := by decide +kernel
theorem dX10_pour_16 : decode cX10_pour 16 = .ok (.ifCond .ge 6, 3) := by decide +kernel
theorem dX10_pour_19 : decode cX10_pour 19 = .ok (.ldc 189, 2) := by decide +kernel
theorem dX10_pour_21 : decode cX10_pour 21 = .ok (.ireturn, 1) := by decide +kernel
theorem dX10_pour_22 : decode cX10_pour 22 = .ok (.iconst 0, 1) := by decide +kernel
theorem dX10_pour_23 : decode cX10_pour 23 = .ok (.istore_n 2, 1) := by decide +kernel
theorem dX10_pour_24 : decode cX10_pour 24 = .ok (.iconst 0, 1) := by decide +kernel
theorem dX10_pour_25 : decode cX10_pour 25 = .ok (.istore_n 3, 1) := by decide +kernel
theorem dX10_pour_26 : decode cX10_pour 26 = .ok (.iload_n 3, 1) := by decide +kernel
theorem dX10_pour_27 : decode cX10_pour 27 = .ok (.aload_n 0, 1) := by decide +kernel
theorem dX10_pour_28 : decode cX10_pour 28 = .ok (.getfield 55, 3) := by decide +kernel
theorem dX10_pour_31 : decode cX10_pour 31 = .ok (.iload_n 1, 1) := by decide +kernel
theorem dX10_pour_32 : decode cX10_pour 32 = .ok (.iaload, 1) := by decide +kernel
theorem dX10_pour_33 : decode cX10_pour 33 = .ok (.if_icmp .ge 80, 3) := by decide +kernel
theorem dX10_pour_36 : decode cX10_pour 36 = .ok (.iload_n 3, 1) := by decide +kernel
theorem dX10_pour_37 : decode cX10_pour 37 = .ok (.bipush 6, 2) := by decide +kernel
theorem dX10_pour_39 : decode cX10_pour 39 = .ok (.if_icmp .ge 74, 3) := by decide +kernel
theorem dX10_pour_42 : decode cX10_pour 42 = .ok (.aload_n 0, 1) := by decide +kernel
theorem dX10_pour_43 : decode cX10_pour 43 = .ok (.getfield 58, 3) := by decide +kernel
theorem dX10_pour_46 : decode cX10_pour 46 = .ok (.bipush 24, 2) := by decide +kernel
theorem dX10_pour_48 : decode cX10_pour 48 = .ok (.iload_n 1, 1) := by decide +kernel
theorem dX10_pour_49 : decode cX10_pour 49 = .ok (.imul, 1) := by decide +kernel
theorem dX10_pour_50 : decode cX10_pour 50 = .ok (.iload_n 3, 1) := by decide +kernel
theorem dX10_pour_51 : decode cX10_pour 51 = .ok (.iadd, 1) := by decide +kernel
theorem dX10_pour_52 : decode cX10_pour 52 = .ok (.iaload, 1) := by decide +kernel
theorem dX10_pour_53 : decode cX10_pour 53 = .ok (.istore 4, 2) := by decide +kernel
theorem dX10_pour_55 : decode cX10_pour 55 = .ok (.iload 4, 2) := by decide +kernel
theorem dX10_pour_57 : decode cX10_pour 57 = .ok (.ldc 126, 2) := by decide +kernel
theorem dX10_pour_59 : decode cX10_pour 59 = .ok (.if_icmp .ne 11, 3) := by decide +kernel
theorem dX10_pour_62 : decode cX10_pour 62 = .ok (.aload_n 0, 1) := by decide +kernel
theorem dX10_pour_63 : decode cX10_pour 63 = .ok (.iload_n 3, 1) := by decide +kernel
theorem dX10_pour_64 : decode cX10_pour 64 = .ok (.invokevirtual 101, 3) := by decide +kernel
theorem dX10_pour_67 : decode cX10_pour 67 = .ok (.goto 11, 3) := by decide +kernel
theorem dX10_pour_70 : decode cX10_pour 70 = .ok (.iload 4, 2) := by decide +kernel
theorem dX10_pour_72 : decode cX10_pour 72 = .ok (.iconst 0, 1) := by decide +kernel
theorem dX10_pour_73 : decode cX10_pour 73 = .ok (.bipush 9, 2) := by decide +kernel
theorem dX10_pour_75 : decode cX10_pour 75 = .ok (.invokestatic 116, 3) := by decide +kernel
theorem dX10_pour_78 : decode cX10_pour 78 = .ok (.istore 5, 2) := by decide +kernel
theorem dX10_pour_80 : decode cX10_pour 80 = .ok (.iload_n 2, 1) := by decide +kernel
theorem dX10_pour_81 : decode cX10_pour 81 = .ok (.aload_n 0, 1) := by decide +kernel
theorem dX10_pour_82 : decode cX10_pour 82 = .ok (.bipush 8, 2) := by decide +kernel
theorem dX10_pour_84 : decode cX10_pour 84 = .ok (.iconst 2, 1) := by decide +kernel
theorem dX10_pour_85 : decode cX10_pour 85 = .ok (.iload_n 3, 1) := by decide +kernel
theorem dX10_pour_86 : decode cX10_pour 86 = .ok (.imul, 1) := by decide +kernel
theorem dX10_pour_87 : decode cX10_pour 87 = .ok (.iadd, 1) := by decide +kernel
theorem dX10_pour_88 : decode cX10_pour 88 = .ok (.iconst 1, 1) := by decide +kernel
theorem dX10_pour_89 : decode cX10_pour 89 = .ok (.iadd, 1) := by decide +kernel
theorem dX10_pour_90 : decode cX10_pour 90 = .ok (.iload 5, 2) := by decide +kernel
theorem dX10_pour_92 : decode cX10_pour 92 = .ok (.invokevirtual 140, 3) := by decide +kernel
theorem dX10_pour_95 : decode cX10_pour 95 = .ok (.iload 5, 2) := by decide +kernel
theorem dX10_pour_97 : decode cX10_pour 97 = .ok (.if_icmp .ne 7, 3) := by decide +kernel
theorem dX10_pour_100 : decode cX10_pour 100 = .ok (.iconst 0, 1) := by decide +kernel
theorem dX10_pour_101 : decode cX10_pour 101 = .ok (.goto 4, 3) := by decide +kernel
theorem dX10_pour_104 : decode cX10_pour 104 = .ok (.iconst 1, 1) := by decide +kernel
theorem dX10_pour_105 : decode cX10_pour 105 = .ok (.iadd, 1) := by decide +kernel
theorem dX10_pour_106 : decode cX10_pour 106 = .ok (.istore_n 2, 1) := by decide +kernel
theorem dX10_pour_107 : decode cX10_pour 107 = .ok (.iinc 3 1, 3) := by decide +kernel
theorem dX10_pour_110 : decode cX10_pour 110 = .ok (.goto (-84), 3) := by decide +kernel
theorem dX10_pour_113 : decode cX10_pour 113 = .ok (.iload_n 2, 1) := by decide +kernel
theorem dX10_pour_114 : decode cX10_pour 114 = .ok (.ireturn, 1) := by decide +kernel
abbrev x_X10_pour (E : mh_E) (d mc ms : Nat) (Post : Option Value → mh_H → Prop) : mh_X := (E, yX10_pour, cX10_pour, 6, (some .int), d, mc, ms, Post)
def q_X10_pour_113 (X : mh_X) : mh_PR := s_il 2 (s_iret X)
theorem b_X10_pour_113 {E : mh_E} {d mc ms : Nat} {Post : Option Value → mh_H → Prop} : mh_S (x_X10_pour E d mc ms Post) 113 (q_X10_pour_113 (x_X10_pour E d mc ms Post)) := sn_iload_n dX10_pour_113 rfl (sn_iret rfl dX10_pour_114)
def q_X10_pour_105 (X : mh_X) : mh_PR := s_bin (fun x y => x + y) (s_is 2 (s_inc 3 (1) (mh_G X 26)))
theorem b_X10_pour_105 {E : mh_E} {d mc ms : Nat} {Post : Option Value → mh_H → Prop} : mh_S (x_X10_pour E d mc ms Post) 105 (q_X10_pour_105 (x_X10_pour E d mc ms Post)) := sn_iadd dX10_pour_105 (sn_istore_n dX10_pour_106 rfl (Nat.le_of_ble_eq_true rfl) (sn_iinc dX10_pour_107 (by decide) (Nat.le_of_ble_eq_true rfl) (sn_goto (tgt := 26) dX10_pour_110 (by decide) (mh_S.G))))
def q_X10_pour_78 (X : mh_X) : mh_PR := s_is 5 (s_il 2 (s_al 0 (s_push (.int (8)) (s_push (.int (2)) (s_il 3 (s_bin (fun x y => x * y) (s_bin (fun x y => x + y) (s_push (.int (1)) (s_bin (fun x y => x + y) (s_il 5 (s_cv X yX10_swaps 10 2 (s_il 5 (s_if2 (fun x y => ¬ x = y) (s_push (.int (1)) (q_X10_pour_105 X)) (s_push (.int (0)) (q_X10_pour_105 X)))))))))))))))
theorem b_X10_pour_78 {E : mh_E} {d mc ms : Nat} {Post : Option Value → mh_H → Prop} : mh_S (x_X10_pour E d mc ms Post) 78 (q_X10_pour_78 (x_X10_pour E d mc ms Post)) := sn_istore dX10_pour_78 (Nat.le_of_ble_eq_true rfl) (sn_iload_n dX10_pour_80 rfl (sn_aload_n dX10_pour_81 rfl (sn_bipush dX10_pour_82 (by decide) (sn_iconst dX10_pour_84 (by decide) (sn_iload_n dX10_pour_85 rfl (sn_imul dX10_pour_86 (sn_iadd dX10_pour_87 (sn_iconst dX10_pour_88 (by decide) (sn_iadd dX10_pour_89 (sn_iload dX10_pour_90 (sn_cv w_1290 w_1292 w_33 w_66 rfl nm_X10_swaps dX10_pour_92 (sn_iload dX10_pour_95 (sn_icmp_ne (tgt := 104) dX10_pour_97 (by decide) (sn_iconst dX10_pour_104 (by decide) b_X10_pour_105) (sn_iconst dX10_pour_100 (by decide) (sn_goto (tgt := 105) dX10_pour_101 (by decide) (b_X10_pour_105))))))))))))))))
def q_X10_pour_26 (X : mh_X) : mh_PR := s_il 3 (s_al 0 (s_gr 10 25 (s_il 1 (s_ald 0 (s_if2 (fun x y => y ≤ x) (q_X10_pour_113 X) (s_il 3 (s_push (.int (6)) (s_if2 (fun x y => y ≤ x) (q_X10_pour_113 X) (s_al 0 (s_gr 10 26 (s_push (.int (24)) (s_il 1 (s_bin (fun x y => x * y) (s_il 3 (s_bin (fun x y => x + y) (s_ald 0 (s_is 4 (s_il 4 (s_push (.int (-1000000005)) (s_if2 (fun x y => ¬ x = y) (s_il 4 (s_push (.int (0)) (s_push (.int (9)) (s_cs X yX10_within 3 (q_X10_pour_78 X))))) (s_al 0 (s_il 3 (s_cv X yX10_rankOf 10 1 (q_X10_pour_78 X))))))))))))))))))))))))
theorem b_X10_pour_26 {E : mh_E} {d mc ms : Nat} {Post : Option Value → mh_H → Prop} : mh_S (x_X10_pour E d mc ms Post) 26 (q_X10_pour_26 (x_X10_pour E d mc ms Post)) := sn_iload_n dX10_pour_26 rfl (sn_aload_n dX10_pour_27 rfl (sn_getr clX10 (by decide) w_1125 dX10_pour_28 (sn_iload_n dX10_pour_31 rfl (sn_iaload dX10_pour_32 (sn_icmp_ge (tgt := 113) dX10_pour_33 (by decide) (b_X10_pour_113) (sn_iload_n dX10_pour_36 rfl (sn_bipush dX10_pour_37 (by decide) (sn_icmp_ge (tgt := 113) dX10_pour_39 (by decide) (b_X10_pour_113) (sn_aload_n dX10_pour_42 rfl (sn_getr clX10 (by decide) w_1126 dX10_pour_43 (sn_bipush dX10_pour_46 (by decide) (sn_iload_n dX10_pour_48 rfl (sn_imul dX10_pour_49 (sn_iload_n dX10_pour_50 rfl (sn_iadd dX10_pour_51 (sn_iaload dX10_pour_52 (sn_istore dX10_pour_53 (Nat.le_of_ble_eq_true rfl) (sn_iload dX10_pour_55 (sn_ldc dX10_pour_57 w_1238 (sn_icmp_ne (tgt := 70) dX10_pour_59 (by decide) (sn_iload dX10_pour_70 (sn_iconst dX10_pour_72 (by decide) (sn_bipush dX10_pour_73 (by decide) (sn_cs w_1264 w_1265 w_66 nm_X10_within dX10_pour_75 b_X10_pour_78)))) (sn_aload_n dX10_pour_62 rfl (sn_iload_n dX10_pour_63 rfl (sn_cv w_1247 w_1249 w_27 w_66 rfl nm_X10_rankOf dX10_pour_64 (sn_goto (tgt := 78) dX10_pour_67 (by decide) (b_X10_pour_78)))))))))))))))))))))))))
def q_X10_pour_0 (X : mh_X) : mh_PR := s_il 1 (s_cs X yX10_isSheet 1 (s_if1 (fun x => ¬ x = 0) (s_al 0 (s_gr 10 24 (s_il 1 (s_ald 0 (s_if1 (fun x => 0 ≤ x) (s_push (.int (0)) (s_is 2 (s_push (.int (0)) (s_is 3 (mh_G X 26))))) (s_push (.int (-1000000011)) (s_iret X))))))) (s_push (.int (-1000000001)) (s_iret X))))
theorem b_X10_pour_0 {E : mh_E} {d mc ms : Nat} {Post : Option Value → mh_H → Prop} : mh_S (x_X10_pour E d mc ms Post) 0 (q_X10_pour_0 (x_X10_pour E d mc ms Post)) := sn_iload_n dX10_pour_0 rfl (sn_cs w_1426 w_1427 w_66 nm_X10_isSheet dX10_pour_1 (sn_if_ne (tgt := 10) dX10_pour_4 (by decide) (sn_aload_n dX10_pour_10 rfl (sn_getr clX10 (by decide) w_1124 dX10_pour_11 (sn_iload_n dX10_pour_14 rfl (sn_iaload dX10_pour_15 (sn_if_ge (tgt := 22) dX10_pour_16 (by decide) (sn_iconst dX10_pour_22 (by decide) (sn_istore_n dX10_pour_23 rfl (Nat.le_of_ble_eq_true rfl) (sn_iconst dX10_pour_24 (by decide) (sn_istore_n dX10_pour_25 rfl (Nat.le_of_ble_eq_true rfl) mh_S.G)))) (sn_ldc dX10_pour_19 w_1429 (sn_iret rfl dX10_pour_21))))))) (sn_ldc dX10_pour_7 w_1216 (sn_iret rfl dX10_pour_9))))
theorem m_X10_pour {E : mh_E} {d mc ms : Nat} {args : List Value} {h : mh_H} {Post : Option Value → mh_H → Prop} (lv : List (Option Value)) (hl : lv_args 0 args = mh_al 0 lv) (hs : (lg_sl args).length ≤ 6) (hG : q_X10_pour_0 (x_X10_pour E d mc ms Post) lv [] h 0 0) : mh_M E d mc ms yX10_pour args h Post := mh_M.of w_1515 (by decide) (by decide) hl hs (b_X10_pour_0 _ _ _ _ _ hG)
theorem dX10_reads_0 : decode cX10_reads 0 = .ok (.iload_n 1, 1) := by decide +kernel
theorem dX10_reads_1 : decode cX10_reads 1 = .ok (.invokestatic 186, 3) := by decide +kernel
theorem dX10_reads_4 : decode cX10_reads 4 = .ok (.ifCond .ne 6, 3) := by decide +kernel
theorem dX10_reads_7 : decode cX10_reads 7 = .ok (.ldc 91, 2) := by decide +kernel
theorem dX10_reads_9 : decode cX10_reads 9 = .ok (.ireturn, 1) := by decide +kernel
theorem dX10_reads_10 : decode cX10_reads 10 = .ok (.aload_n 0, 1) := by decide +kernel
theorem dX10_reads_11 : decode cX10_reads 11 = .ok (.getfield 52, 3) := by decide +kernel
theorem dX10_reads_14 : decode cX10_reads 14 = .ok (.iload_n 1, 1) := by decide +kernel
theorem dX10_reads_15 : decode cX10_reads 15 = .ok (.iaload, 1) := by decide +kernel
theorem dX10_reads_16 : decode cX10_reads 16 = .ok (.ifCond .ge 6, 3) := by decide +kernel
theorem dX10_reads_19 : decode cX10_reads 19 = .ok (.ldc 189, 2) := by decide +kernel
theorem dX10_reads_21 : decode cX10_reads 21 = .ok (.ireturn, 1) := by decide +kernel
theorem dX10_reads_22 : decode cX10_reads 22 = .ok (.iconst 0, 1) := by decide +kernel
theorem dX10_reads_23 : decode cX10_reads 23 = .ok (.istore_n 2, 1) := by decide +kernel
theorem dX10_reads_24 : decode cX10_reads 24 = .ok (.iload_n 2, 1) := by decide +kernel
theorem dX10_reads_25 : decode cX10_reads 25 = .ok (.aload_n 0, 1) := by decide +kernel
theorem dX10_reads_26 : decode cX10_reads 26 = .ok (.getfield 55, 3) := by decide +kernel
theorem dX10_reads_29 : decode cX10_reads 29 = .ok (.iload_n 1, 1) := by decide +kernel
theorem dX10_reads_30 : decode cX10_reads 30 = .ok (.iaload, 1) := by decide +kernel
theorem dX10_reads_31 : decode cX10_reads 31 = .ok (.if_icmp .ge 45, 3) := by decide +kernel
theorem dX10_reads_34 : decode cX10_reads 34 = .ok (.aload_n 0, 1) := by decide +kernel
theorem dX10_reads_35 : decode cX10_reads 35 = .ok (.getfield 58, 3) := by decide +kernel
theorem dX10_reads_38 : decode cX10_reads 38 = .ok (.bipush 24, 2) := by decide +kernel
theorem dX10_reads_40 : decode cX10_reads 40 = .ok (.iload_n 1, 1) := by decide +kernel
theorem dX10_reads_41 : decode cX10_reads 41 = .ok (.imul, 1) := by decide +kernel
theorem dX10_reads_42 : decode cX10_reads 42 = .ok (.iload_n 2, 1) := by decide +kernel
theorem dX10_reads_43 : decode cX10_reads 43 = .ok (.iadd, 1) := by decide +kernel
theorem dX10_reads_44 : decode cX10_reads 44 = .ok (.iaload, 1) := by decide +kernel
theorem dX10_reads_45 : decode cX10_reads 45 = .ok (.istore_n 3, 1) := by decide +kernel
theorem dX10_reads_46 : decode cX10_reads 46 = .ok (.iload_n 3, 1) := by decide +kernel
theorem dX10_reads_47 : decode cX10_reads 47 = .ok (.ldc 126, 2) := by decide +kernel
theorem dX10_reads_49 : decode cX10_reads 49 = .ok (.if_icmp .eq 21, 3) := by decide +kernel
theorem dX10_reads_52 : decode cX10_reads 52 = .ok (.iload_n 2, 1) := by decide +kernel
theorem dX10_reads_53 : decode cX10_reads 53 = .ok (.invokestatic 144, 3) := by decide +kernel
theorem dX10_reads_56 : decode cX10_reads 56 = .ok (.ifCond .eq 12, 3) := by decide +kernel
theorem dX10_reads_59 : decode cX10_reads 59 = .ok (.iload_n 3, 1) := by decide +kernel
theorem dX10_reads_60 : decode cX10_reads 60 = .ok (.aload_n 0, 1) := by decide +kernel
theorem dX10_reads_61 : decode cX10_reads 61 = .ok (.iload_n 2, 1) := by decide +kernel
theorem dX10_reads_62 : decode cX10_reads 62 = .ok (.invokevirtual 97, 3) := by decide +kernel
theorem dX10_reads_65 : decode cX10_reads 65 = .ok (.if_icmp .eq 5, 3) := by decide +kernel
theorem dX10_reads_68 : decode cX10_reads 68 = .ok (.iload_n 2, 1) := by decide +kernel
theorem dX10_reads_69 : decode cX10_reads 69 = .ok (.ireturn, 1) := by decide +kernel
theorem dX10_reads_70 : decode cX10_reads 70 = .ok (.iinc 2 1, 3) := by decide +kernel
theorem dX10_reads_73 : decode cX10_reads 73 = .ok (.goto (-49), 3) := by decide +kernel
theorem dX10_reads_76 : decode cX10_reads 76 = .ok (.ldc 126, 2) := by decide +kernel
theorem dX10_reads_78 : decode cX10_reads 78 = .ok (.ireturn, 1) := by decide +kernel
abbrev x_X10_reads (E : mh_E) (d mc ms : Nat) (Post : Option Value → mh_H → Prop) : mh_X := (E, yX10_reads, cX10_reads, 4, (some .int), d, mc, ms, Post)
def q_X10_reads_70 (X : mh_X) : mh_PR := s_inc 2 (1) (mh_G X 24)
theorem b_X10_reads_70 {E : mh_E} {d mc ms : Nat} {Post : Option Value → mh_H → Prop} : mh_S (x_X10_reads E d mc ms Post) 70 (q_X10_reads_70 (x_X10_reads E d mc ms Post)) := sn_iinc dX10_reads_70 (by decide) (Nat.le_of_ble_eq_true rfl) (sn_goto (tgt := 24) dX10_reads_73 (by decide) (mh_S.G))
def q_X10_reads_68 (X : mh_X) : mh_PR := s_il 2 (s_iret X)
theorem b_X10_reads_68 {E : mh_E} {d mc ms : Nat} {Post : Option Value → mh_H → Prop} : mh_S (x_X10_reads E d mc ms Post) 68 (q_X10_reads_68 (x_X10_reads E d mc ms Post)) := sn_iload_n dX10_reads_68 rfl (sn_iret rfl dX10_reads_69)
def q_X10_reads_24 (X : mh_X) : mh_PR := s_il 2 (s_al 0 (s_gr 10 25 (s_il 1 (s_ald 0 (s_if2 (fun x y => y ≤ x) (s_push (.int (-1000000005)) (s_iret X)) (s_al 0 (s_gr 10 26 (s_push (.int (24)) (s_il 1 (s_bin (fun x y => x * y) (s_il 2 (s_bin (fun x y => x + y) (s_ald 0 (s_is 3 (s_il 3 (s_push (.int (-1000000005)) (s_if2 (fun x y => x = y) (q_X10_reads_70 X) (s_il 2 (s_cs X yX10_isPerson 1 (s_if1 (fun x => x = 0) (q_X10_reads_68 X) (s_il 3 (s_al 0 (s_il 2 (s_cv X yX10_squareOf 10 1 (s_if2 (fun x y => x = y) (q_X10_reads_70 X) (q_X10_reads_68 X))))))))))))))))))))))))))
theorem b_X10_reads_24 {E : mh_E} {d mc ms : Nat} {Post : Option Value → mh_H → Prop} : mh_S (x_X10_reads E d mc ms Post) 24 (q_X10_reads_24 (x_X10_reads E d mc ms Post)) := sn_iload_n dX10_reads_24 rfl (sn_aload_n dX10_reads_25 rfl (sn_getr clX10 (by decide) w_1125 dX10_reads_26 (sn_iload_n dX10_reads_29 rfl (sn_iaload dX10_reads_30 (sn_icmp_ge (tgt := 76) dX10_reads_31 (by decide) (sn_ldc dX10_reads_76 w_1238 (sn_iret rfl dX10_reads_78)) (sn_aload_n dX10_reads_34 rfl (sn_getr clX10 (by decide) w_1126 dX10_reads_35 (sn_bipush dX10_reads_38 (by decide) (sn_iload_n dX10_reads_40 rfl (sn_imul dX10_reads_41 (sn_iload_n dX10_reads_42 rfl (sn_iadd dX10_reads_43 (sn_iaload dX10_reads_44 (sn_istore_n dX10_reads_45 rfl (Nat.le_of_ble_eq_true rfl) (sn_iload_n dX10_reads_46 rfl (sn_ldc dX10_reads_47 w_1238 (sn_icmp_eq (tgt := 70) dX10_reads_49 (by decide) (b_X10_reads_70) (sn_iload_n dX10_reads_52 rfl (sn_cs w_1307 w_1308 w_66 nm_X10_isPerson dX10_reads_53 (sn_if_eq (tgt := 68) dX10_reads_56 (by decide) (b_X10_reads_68) (sn_iload_n dX10_reads_59 rfl (sn_aload_n dX10_reads_60 rfl (sn_iload_n dX10_reads_61 rfl (sn_cv w_1243 w_1245 w_26 w_66 rfl nm_X10_squareOf dX10_reads_62 (sn_icmp_eq (tgt := 70) dX10_reads_65 (by decide) (b_X10_reads_70) (b_X10_reads_68))))))))))))))))))))))))))
def q_X10_reads_0 (X : mh_X) : mh_PR := s_il 1 (s_cs X yX10_isSheet 1 (s_if1 (fun x => ¬ x = 0) (s_al 0 (s_gr 10 24 (s_il 1 (s_ald 0 (s_if1 (fun x => 0 ≤ x) (s_push (.int (0)) (s_is 2 (mh_G X 24))) (s_push (.int (-1000000011)) (s_iret X))))))) (s_push (.int (-1000000001)) (s_iret X))))
theorem b_X10_reads_0 {E : mh_E} {d mc ms : Nat} {Post : Option Value → mh_H → Prop} : mh_S (x_X10_reads E d mc ms Post) 0 (q_X10_reads_0 (x_X10_reads E d mc ms Post)) := sn_iload_n dX10_reads_0 rfl (sn_cs w_1426 w_1427 w_66 nm_X10_isSheet dX10_reads_1 (sn_if_ne (tgt := 10) dX10_reads_4 (by decide) (sn_aload_n dX10_reads_10 rfl (sn_getr clX10 (by decide) w_1124 dX10_reads_11 (sn_iload_n dX10_reads_14 rfl (sn_iaload dX10_reads_15 (sn_if_ge (tgt := 22) dX10_reads_16 (by decide) (sn_iconst dX10_reads_22 (by decide) (sn_istore_n dX10_reads_23 rfl (Nat.le_of_ble_eq_true rfl) mh_S.G)) (sn_ldc dX10_reads_19 w_1429 (sn_iret rfl dX10_reads_21))))))) (sn_ldc dX10_reads_7 w_1216 (sn_iret rfl dX10_reads_9))))
theorem m_X10_reads {E : mh_E} {d mc ms : Nat} {args : List Value} {h : mh_H} {Post : Option Value → mh_H → Prop} (lv : List (Option Value)) (hl : lv_args 0 args = mh_al 0 lv) (hs : (lg_sl args).length ≤ 4) (hG : q_X10_reads_0 (x_X10_reads E d mc ms Post) lv [] h 0 0) : mh_M E d mc ms yX10_reads args h Post := mh_M.of w_1519 (by decide) (by decide) hl hs (b_X10_reads_0 _ _ _ _ _ hG)
theorem dX10_lay_0 : decode cX10_lay 0 = .ok (.iload_n 1, 1) := by decide +kernel
theorem dX10_lay_1 : decode cX10_lay 1 = .ok (.invokestatic 261, 3) := by decide +kernel
theorem dX10_lay_4 : decode cX10_lay 4 = .ok (.ifCond .eq 37, 3) := by decide +kernel
theorem dX10_lay_7 : decode cX10_lay 7 = .ok (.iload_n 2, 1) := by decide +kernel
theorem dX10_lay_8 : decode cX10_lay 8 = .ok (.iconst 0, 1) := by decide +kernel
theorem dX10_lay_9 : decode cX10_lay 9 = .ok (.iconst 3, 1) := by decide +kernel
theorem dX10_lay_10 : decode cX10_lay 10 = .ok (.invokestatic 79, 3) := by decide +kernel
theorem dX10_lay_13 : decode cX10_lay 13 = .ok (.ifCond .eq 28, 3) := by decide +kernel
theorem dX10_lay_16 : decode cX10_lay 16 = .ok (.iload_n 2, 1) := by decide +kernel
theorem dX10_lay_17 : decode cX10_lay 17 = .ok (.iconst 1, 1) := by decide +kernel
theorem dX10_lay_18 : decode cX10_lay 18 = .ok (.if_icmp .ne 11, 3) := by decide +kernel
theorem dX10_lay_21 : decode cX10_lay 21 = .ok (.aload_n 0, 1) := by decide +kernel
theorem dX10_lay_22 : decode cX10_lay 22 = .ok (.iload_n 3, 1) := by decide +kernel
theorem dX10_lay_23 : decode cX10_lay 23 = .ok (.invokevirtual 122, 3) := by decide +kernel
theorem dX10_lay_26 : decode cX10_lay 26 = .ok (.ifCond .eq 15, 3) := by decide +kernel
theorem dX10_lay_29 : decode cX10_lay 29 = .ok (.iload_n 2, 1) := by decide +kernel
theorem dX10_lay_30 : decode cX10_lay 30 = .ok (.iconst 2, 1) := by decide +kernel
theorem dX10_lay_31 : decode cX10_lay 31 = .ok (.if_icmp .ne 13, 3) := by decide +kernel
theorem dX10_lay_34 : decode cX10_lay 34 = .ok (.iload_n 3, 1) := by decide +kernel
theorem dX10_lay_35 : decode cX10_lay 35 = .ok (.invokestatic 186, 3) := by decide +kernel
theorem dX10_lay_38 : decode cX10_lay 38 = .ok (.ifCond .ne 6, 3) := by decide +kernel
theorem dX10_lay_41 : decode cX10_lay 41 = .ok (.ldc 91, 2) := by decide +kernel
theorem dX10_lay_43 : decode cX10_lay 43 = .ok (.ireturn, 1) := by decide +kernel
theorem dX10_lay_44 : decode cX10_lay 44 = .ok (.iload_n 2, 1) := by decide +kernel
theorem dX10_lay_45 : decode cX10_lay 45 = .ok (.iconst 2, 1) := by decide +kernel
theorem dX10_lay_46 : decode cX10_lay 46 = .ok (.if_icmp .ne 15, 3) := by decide +kernel
theorem dX10_lay_49 : decode cX10_lay 49 = .ok (.aload_n 0, 1) := by decide +kernel
theorem dX10_lay_50 : decode cX10_lay 50 = .ok (.getfield 52, 3) := by decide +kernel
theorem dX10_lay_53 : decode cX10_lay 53 = .ok (.iload_n 3, 1) := by decide +kernel
theorem dX10_lay_54 : decode cX10_lay 54 = .ok (.iaload, 1) := by decide +kernel
theorem dX10_lay_55 : decode cX10_lay 55 = .ok (.ifCond .ge 6, 3) := by decide +kernel
theorem dX10_lay_58 : decode cX10_lay 58 = .ok (.ldc 189, 2) := by decide +kernel
theorem dX10_lay_60 : decode cX10_lay 60 = .ok (.ireturn, 1) := by decide +kernel
theorem dX10_lay_61 : decode cX10_lay 61 = .ok (.aload_n 0, 1) := by decide +kernel
theorem dX10_lay_62 : decode cX10_lay 62 = .ok (.getfield 61, 3) := by decide +kernel
theorem dX10_lay_65 : decode cX10_lay 65 = .ok (.iload_n 1, 1) := by decide +kernel
theorem dX10_lay_66 : decode cX10_lay 66 = .ok (.iaload, 1) := by decide +kernel
theorem dX10_lay_67 : decode cX10_lay 67 = .ok (.istore 4, 2) := by decide +kernel
theorem dX10_lay_69 : decode cX10_lay 69 = .ok (.aload_n 0, 1) := by decide +kernel
theorem dX10_lay_70 : decode cX10_lay 70 = .ok (.getfield 61, 3) := by decide +kernel
theorem dX10_lay_73 : decode cX10_lay 73 = .ok (.iload_n 1, 1) := by decide +kernel
theorem dX10_lay_74 : decode cX10_lay 74 = .ok (.iload_n 2, 1) := by decide +kernel
theorem dX10_lay_75 : decode cX10_lay 75 = .ok (.iastore, 1) := by decide +kernel
theorem dX10_lay_76 : decode cX10_lay 76 = .ok (.aload_n 0, 1) := by decide +kernel
theorem dX10_lay_77 : decode cX10_lay 77 = .ok (.getfield 64, 3) := by decide +kernel
theorem dX10_lay_80 : decode cX10_lay 80 = .ok (.iload_n 1, 1) := by decide +kernel
theorem dX10_lay_81 : decode cX10_lay 81 = .ok (.iload_n 2, 1) := by decide +kernel
theorem dX10_lay_82 : decode cX10_lay 82 = .ok (.iconst 1, 1) := by decide +kernel
theorem dX10_lay_83 : decode cX10_lay 83 = .ok (.if_icmp .ne 12, 3) := by decide +kernel
theorem dX10_lay_86 : decode cX10_lay 86 = .ok (.aload_n 0, 1) := by decide +kernel
theorem dX10_lay_87 : decode cX10_lay 87 = .ok (.iload_n 3, 1) := by decide +kernel
theorem dX10_lay_88 : decode cX10_lay 88 = .ok (.iconst 0, 1) := by decide +kernel
theorem dX10_lay_89 : decode cX10_lay 89 = .ok (.invokevirtual 104, 3) := by decide +kernel
theorem dX10_lay_92 : decode cX10_lay 92 = .ok (.goto 18, 3) := by decide +kernel
theorem dX10_lay_95 : decode cX10_lay 95 = .ok (.iload_n 2, 1) := by decide +kernel
theorem dX10_lay_96 : decode cX10_lay 96 = .ok (.iconst 2, 1) := by decide +kernel
theorem dX10_lay_97 : decode cX10_lay 97 = .ok (.if_icmp .ne 12, 3) := by decide +kernel
theorem dX10_lay_100 : decode cX10_lay 100 = .ok (.aload_n 0, 1) := by decide +kernel
theorem dX10_lay_101 : decode cX10_lay 101 = .ok (.getfield 55, 3) := by decide +kernel
theorem dX10_lay_104 : decode cX10_lay 104 = .ok (.iload_n 3, 1) := by decide +kernel
theorem dX10_lay_105 : decode cX10_lay 105 = .ok (.iaload, 1) := by decide +kernel
theorem dX10_lay_106 : decode cX10_lay 106 = .ok (.goto 4, 3) := by decide +kernel
theorem dX10_lay_109 : decode cX10_lay 109 = .ok (.iload_n 3, 1) := by decide +kernel
theorem dX10_lay_110 : decode cX10_lay 110 = .ok (.iastore, 1) := by decide +kernel
theorem dX10_lay_111 : decode cX10_lay 111 = .ok (.aload_n 0, 1) := by decide +kernel
theorem dX10_lay_112 : decode cX10_lay 112 = .ok (.getfield 67, 3) := by decide +kernel
theorem dX10_lay_115 : decode cX10_lay 115 = .ok (.iload_n 1, 1) := by decide +kernel
theorem dX10_lay_116 : decode cX10_lay 116 = .ok (.iload_n 2, 1) := by decide +kernel
theorem dX10_lay_117 : decode cX10_lay 117 = .ok (.iconst 1, 1) := by decide +kernel
theorem dX10_lay_118 : decode cX10_lay 118 = .ok (.if_icmp .ne 11, 3) := by decide +kernel
theorem dX10_lay_121 : decode cX10_lay 121 = .ok (.aload_n 0, 1) := by decide +kernel
theorem dX10_lay_122 : decode cX10_lay 122 = .ok (.iload_n 3, 1) := by decide +kernel
theorem dX10_lay_123 : decode cX10_lay 123 = .ok (.invokevirtual 133, 3) := by decide +kernel
theorem dX10_lay_126 : decode cX10_lay 126 = .ok (.goto 4, 3) := by decide +kernel
theorem dX10_lay_129 : decode cX10_lay 129 = .ok (.iconst 0, 1) := by decide +kernel
theorem dX10_lay_130 : decode cX10_lay 130 = .ok (.iastore, 1) := by decide +kernel
theorem dX10_lay_131 : decode cX10_lay 131 = .ok (.iconst 0, 1) := by decide +kernel
theorem dX10_lay_132 : decode cX10_lay 132 = .ok (.istore 5, 2) := by decide +kernel
theorem dX10_lay_134 : decode cX10_lay 134 = .ok (.iload 5, 2) := by decide +kernel
theorem dX10_lay_136 : decode cX10_lay 136 = .ok (.bipush 24, 2) := by decide +kernel
theorem dX10_lay_138 : decode cX10_lay 138 = .ok (.if_icmp .ge 38, 3) := by decide +kernel
theorem dX10_lay_141 : decode cX10_lay 141 = .ok (.iload_n 2, 1) := by decide +kernel
theorem dX10_lay_142 : decode cX10_lay 142 = .ok (.iconst 2, 1) := by decide +kernel
theorem dX10_lay_143 : decode cX10_lay 143 = .ok (.if_icmp .ne 33, 3) := by decide +kernel
theorem dX10_lay_146 : decode cX10_lay 146 = .ok (.aload_n 0, 1) := by decide +kernel
theorem dX10_lay_147 : decode cX10_lay 147 = .ok (.getfield 70, 3) := by decide +kernel
theorem dX10_lay_150 : decode cX10_lay 150 = .ok (.bipush 24, 2) := by decide +kernel
theorem dX10_lay_152 : decode cX10_lay 152 = .ok (.iload_n 1, 1) := by decide +kernel
theorem dX10_lay_153 : decode cX10_lay 153 = .ok (.imul, 1) := by decide +kernel
theorem dX10_lay_154 : decode cX10_lay 154 = .ok (.iload 5, 2) := by decide +kernel
theorem dX10_lay_156 : decode cX10_lay 156 = .ok (.iadd, 1) := by decide +kernel
theorem dX10_lay_157 : decode cX10_lay 157 = .ok (.aload_n 0, 1) := by decide +kernel
theorem dX10_lay_158 : decode cX10_lay 158 = .ok (.getfield 58, 3) := by decide +kernel
theorem dX10_lay_161 : decode cX10_lay 161 = .ok (.bipush 24, 2) := by decide +kernel
theorem dX10_lay_163 : decode cX10_lay 163 = .ok (.iload_n 3, 1) := by decide +kernel
theorem dX10_lay_164 : decode cX10_lay 164 = .ok (.imul, 1) := by decide +kernel
theorem dX10_lay_165 : decode cX10_lay 165 = .ok (.iload 5, 2) := by decide +kernel
theorem dX10_lay_167 : decode cX10_lay 167 = .ok (.iadd, 1) := by decide +kernel
theorem dX10_lay_168 : decode cX10_lay 168 = .ok (.iaload, 1) := by decide +kernel
theorem dX10_lay_169 : decode cX10_lay 169 = .ok (.iastore, 1) := by decide +kernel
theorem dX10_lay_170 : decode cX10_lay 170 = .ok (.iinc 5 1, 3) := by decide +kernel
theorem dX10_lay_173 : decode cX10_lay 173 = .ok (.goto (-39), 3) := by decide +kernel
theorem dX10_lay_176 : decode cX10_lay 176 = .ok (.iload 4, 2) := by decide +kernel
theorem dX10_lay_178 : decode cX10_lay 178 = .ok (.ireturn, 1) := by decide +kernel
abbrev x_X10_lay (E : mh_E) (d mc ms : Nat) (Post : Option Value → mh_H → Prop) : mh_X := (E, yX10_lay, cX10_lay, 6, (some .int), d, mc, ms, Post)
def q_X10_lay_176 (X : mh_X) : mh_PR := s_il 4 (s_iret X)
theorem b_X10_lay_176 {E : mh_E} {d mc ms : Nat} {Post : Option Value → mh_H → Prop} : mh_S (x_X10_lay E d mc ms Post) 176 (q_X10_lay_176 (x_X10_lay E d mc ms Post)) := sn_iload dX10_lay_176 (sn_iret rfl dX10_lay_178)
def q_X10_lay_134 (X : mh_X) : mh_PR := s_il 5 (s_push (.int (24)) (s_if2 (fun x y => y ≤ x) (q_X10_lay_176 X) (s_il 2 (s_push (.int (2)) (s_if2 (fun x y => ¬ x = y) (q_X10_lay_176 X) (s_al 0 (s_gr 10 30 (s_push (.int (24)) (s_il 1 (s_bin (fun x y => x * y) (s_il 5 (s_bin (fun x y => x + y) (s_al 0 (s_gr 10 26 (s_push (.int (24)) (s_il 3 (s_bin (fun x y => x * y) (s_il 5 (s_bin (fun x y => x + y) (s_ald 0 (s_ast 0 (fun x => x) (s_inc 5 (1) (mh_G X 134)))))))))))))))))))))))
theorem b_X10_lay_134 {E : mh_E} {d mc ms : Nat} {Post : Option Value → mh_H → Prop} : mh_S (x_X10_lay E d mc ms Post) 134 (q_X10_lay_134 (x_X10_lay E d mc ms Post)) := sn_iload dX10_lay_134 (sn_bipush dX10_lay_136 (by decide) (sn_icmp_ge (tgt := 176) dX10_lay_138 (by decide) (b_X10_lay_176) (sn_iload_n dX10_lay_141 rfl (sn_iconst dX10_lay_142 (by decide) (sn_icmp_ne (tgt := 176) dX10_lay_143 (by decide) (b_X10_lay_176) (sn_aload_n dX10_lay_146 rfl (sn_getr clX10 (by decide) w_1130 dX10_lay_147 (sn_bipush dX10_lay_150 (by decide) (sn_iload_n dX10_lay_152 rfl (sn_imul dX10_lay_153 (sn_iload dX10_lay_154 (sn_iadd dX10_lay_156 (sn_aload_n dX10_lay_157 rfl (sn_getr clX10 (by decide) w_1126 dX10_lay_158 (sn_bipush dX10_lay_161 (by decide) (sn_iload_n dX10_lay_163 rfl (sn_imul dX10_lay_164 (sn_iload dX10_lay_165 (sn_iadd dX10_lay_167 (sn_iaload dX10_lay_168 (sn_iastore dX10_lay_169 (sn_iinc dX10_lay_170 (by decide) (Nat.le_of_ble_eq_true rfl) (sn_goto (tgt := 134) dX10_lay_173 (by decide) (mh_S.G))))))))))))))))))))))))
def q_X10_lay_130 (X : mh_X) : mh_PR := s_ast 0 (fun x => x) (s_push (.int (0)) (s_is 5 (mh_G X 134)))
theorem b_X10_lay_130 {E : mh_E} {d mc ms : Nat} {Post : Option Value → mh_H → Prop} : mh_S (x_X10_lay E d mc ms Post) 130 (q_X10_lay_130 (x_X10_lay E d mc ms Post)) := sn_iastore dX10_lay_130 (sn_iconst dX10_lay_131 (by decide) (sn_istore dX10_lay_132 (Nat.le_of_ble_eq_true rfl) mh_S.G))
def q_X10_lay_110 (X : mh_X) : mh_PR := s_ast 0 (fun x => x) (s_al 0 (s_gr 10 29 (s_il 1 (s_il 2 (s_push (.int (1)) (s_if2 (fun x y => ¬ x = y) (s_push (.int (0)) (q_X10_lay_130 X)) (s_al 0 (s_il 3 (s_cv X yX10_worthOf 10 1 (q_X10_lay_130 X))))))))))
theorem b_X10_lay_110 {E : mh_E} {d mc ms : Nat} {Post : Option Value → mh_H → Prop} : mh_S (x_X10_lay E d mc ms Post) 110 (q_X10_lay_110 (x_X10_lay E d mc ms Post)) := sn_iastore dX10_lay_110 (sn_aload_n dX10_lay_111 rfl (sn_getr clX10 (by decide) w_1129 dX10_lay_112 (sn_iload_n dX10_lay_115 rfl (sn_iload_n dX10_lay_116 rfl (sn_iconst dX10_lay_117 (by decide) (sn_icmp_ne (tgt := 129) dX10_lay_118 (by decide) (sn_iconst dX10_lay_129 (by decide) b_X10_lay_130) (sn_aload_n dX10_lay_121 rfl (sn_iload_n dX10_lay_122 rfl (sn_cv w_1274 w_1276 w_32 w_66 rfl nm_X10_worthOf dX10_lay_123 (sn_goto (tgt := 130) dX10_lay_126 (by decide) (b_X10_lay_130)))))))))))
def q_X10_lay_61 (X : mh_X) : mh_PR := s_al 0 (s_gr 10 27 (s_il 1 (s_ald 0 (s_is 4 (s_al 0 (s_gr 10 27 (s_il 1 (s_il 2 (s_ast 0 (fun x => x) (s_al 0 (s_gr 10 28 (s_il 1 (s_il 2 (s_push (.int (1)) (s_if2 (fun x y => ¬ x = y) (s_il 2 (s_push (.int (2)) (s_if2 (fun x y => ¬ x = y) (s_il 3 (q_X10_lay_110 X)) (s_al 0 (s_gr 10 25 (s_il 3 (s_ald 0 (q_X10_lay_110 X)))))))) (s_al 0 (s_il 3 (s_push (.int (0)) (s_cv X yX10_of 10 2 (q_X10_lay_110 X))))))))))))))))))))
theorem b_X10_lay_61 {E : mh_E} {d mc ms : Nat} {Post : Option Value → mh_H → Prop} : mh_S (x_X10_lay E d mc ms Post) 61 (q_X10_lay_61 (x_X10_lay E d mc ms Post)) := sn_aload_n dX10_lay_61 rfl (sn_getr clX10 (by decide) w_1127 dX10_lay_62 (sn_iload_n dX10_lay_65 rfl (sn_iaload dX10_lay_66 (sn_istore dX10_lay_67 (Nat.le_of_ble_eq_true rfl) (sn_aload_n dX10_lay_69 rfl (sn_getr clX10 (by decide) w_1127 dX10_lay_70 (sn_iload_n dX10_lay_73 rfl (sn_iload_n dX10_lay_74 rfl (sn_iastore dX10_lay_75 (sn_aload_n dX10_lay_76 rfl (sn_getr clX10 (by decide) w_1128 dX10_lay_77 (sn_iload_n dX10_lay_80 rfl (sn_iload_n dX10_lay_81 rfl (sn_iconst dX10_lay_82 (by decide) (sn_icmp_ne (tgt := 95) dX10_lay_83 (by decide) (sn_iload_n dX10_lay_95 rfl (sn_iconst dX10_lay_96 (by decide) (sn_icmp_ne (tgt := 109) dX10_lay_97 (by decide) (sn_iload_n dX10_lay_109 rfl b_X10_lay_110) (sn_aload_n dX10_lay_100 rfl (sn_getr clX10 (by decide) w_1125 dX10_lay_101 (sn_iload_n dX10_lay_104 rfl (sn_iaload dX10_lay_105 (sn_goto (tgt := 110) dX10_lay_106 (by decide) (b_X10_lay_110))))))))) (sn_aload_n dX10_lay_86 rfl (sn_iload_n dX10_lay_87 rfl (sn_iconst dX10_lay_88 (by decide) (sn_cv w_1234 w_1236 w_24 w_66 rfl nm_X10_of dX10_lay_89 (sn_goto (tgt := 110) dX10_lay_92 (by decide) (b_X10_lay_110)))))))))))))))))))))
def q_X10_lay_44 (X : mh_X) : mh_PR := s_il 2 (s_push (.int (2)) (s_if2 (fun x y => ¬ x = y) (q_X10_lay_61 X) (s_al 0 (s_gr 10 24 (s_il 3 (s_ald 0 (s_if1 (fun x => 0 ≤ x) (q_X10_lay_61 X) (s_push (.int (-1000000011)) (s_iret X)))))))))
theorem b_X10_lay_44 {E : mh_E} {d mc ms : Nat} {Post : Option Value → mh_H → Prop} : mh_S (x_X10_lay E d mc ms Post) 44 (q_X10_lay_44 (x_X10_lay E d mc ms Post)) := sn_iload_n dX10_lay_44 rfl (sn_iconst dX10_lay_45 (by decide) (sn_icmp_ne (tgt := 61) dX10_lay_46 (by decide) (b_X10_lay_61) (sn_aload_n dX10_lay_49 rfl (sn_getr clX10 (by decide) w_1124 dX10_lay_50 (sn_iload_n dX10_lay_53 rfl (sn_iaload dX10_lay_54 (sn_if_ge (tgt := 61) dX10_lay_55 (by decide) (b_X10_lay_61) (sn_ldc dX10_lay_58 w_1429 (sn_iret rfl dX10_lay_60)))))))))
def q_X10_lay_41 (X : mh_X) : mh_PR := s_push (.int (-1000000001)) (s_iret X)
theorem b_X10_lay_41 {E : mh_E} {d mc ms : Nat} {Post : Option Value → mh_H → Prop} : mh_S (x_X10_lay E d mc ms Post) 41 (q_X10_lay_41 (x_X10_lay E d mc ms Post)) := sn_ldc dX10_lay_41 w_1216 (sn_iret rfl dX10_lay_43)
def q_X10_lay_29 (X : mh_X) : mh_PR := s_il 2 (s_push (.int (2)) (s_if2 (fun x y => ¬ x = y) (q_X10_lay_44 X) (s_il 3 (s_cs X yX10_isSheet 1 (s_if1 (fun x => ¬ x = 0) (q_X10_lay_44 X) (q_X10_lay_41 X))))))
theorem b_X10_lay_29 {E : mh_E} {d mc ms : Nat} {Post : Option Value → mh_H → Prop} : mh_S (x_X10_lay E d mc ms Post) 29 (q_X10_lay_29 (x_X10_lay E d mc ms Post)) := sn_iload_n dX10_lay_29 rfl (sn_iconst dX10_lay_30 (by decide) (sn_icmp_ne (tgt := 44) dX10_lay_31 (by decide) (b_X10_lay_44) (sn_iload_n dX10_lay_34 rfl (sn_cs w_1426 w_1427 w_66 nm_X10_isSheet dX10_lay_35 (sn_if_ne (tgt := 44) dX10_lay_38 (by decide) (b_X10_lay_44) (b_X10_lay_41))))))
def q_X10_lay_0 (X : mh_X) : mh_PR := s_il 1 (s_cs X yX10_isSlot 1 (s_if1 (fun x => x = 0) (q_X10_lay_41 X) (s_il 2 (s_push (.int (0)) (s_push (.int (3)) (s_cs X yX10_in 3 (s_if1 (fun x => x = 0) (q_X10_lay_41 X) (s_il 2 (s_push (.int (1)) (s_if2 (fun x y => ¬ x = y) (q_X10_lay_29 X) (s_al 0 (s_il 3 (s_cv X yX10_isStone 10 1 (s_if1 (fun x => x = 0) (q_X10_lay_41 X) (q_X10_lay_29 X)))))))))))))))
theorem b_X10_lay_0 {E : mh_E} {d mc ms : Nat} {Post : Option Value → mh_H → Prop} : mh_S (x_X10_lay E d mc ms Post) 0 (q_X10_lay_0 (x_X10_lay E d mc ms Post)) := sn_iload_n dX10_lay_0 rfl (sn_cs w_1528 w_1529 w_66 nm_X10_isSlot dX10_lay_1 (sn_if_eq (tgt := 41) dX10_lay_4 (by decide) (b_X10_lay_41) (sn_iload_n dX10_lay_7 rfl (sn_iconst dX10_lay_8 (by decide) (sn_iconst dX10_lay_9 (by decide) (sn_cs w_1210 w_1211 w_66 nm_X10_in dX10_lay_10 (sn_if_eq (tgt := 41) dX10_lay_13 (by decide) (b_X10_lay_41) (sn_iload_n dX10_lay_16 rfl (sn_iconst dX10_lay_17 (by decide) (sn_icmp_ne (tgt := 29) dX10_lay_18 (by decide) (b_X10_lay_29) (sn_aload_n dX10_lay_21 rfl (sn_iload_n dX10_lay_22 rfl (sn_cv w_1230 w_1232 w_23 w_66 rfl nm_X10_isStone dX10_lay_23 (sn_if_eq (tgt := 41) dX10_lay_26 (by decide) (b_X10_lay_41) (b_X10_lay_29)))))))))))))))
theorem m_X10_lay {E : mh_E} {d mc ms : Nat} {args : List Value} {h : mh_H} {Post : Option Value → mh_H → Prop} (lv : List (Option Value)) (hl : lv_args 0 args = mh_al 0 lv) (hs : (lg_sl args).length ≤ 6) (hG : q_X10_lay_0 (x_X10_lay E d mc ms Post) lv [] h 0 0) : mh_M E d mc ms yX10_lay args h Post := mh_M.of w_1527 (by decide) (by decide) hl hs (b_X10_lay_0 _ _ _ _ _ hG)
theorem dX10_rest_0 : decode cX10_rest 0 = .ok (.iload_n 1, 1) := by decide +kernel
theorem dX10_rest_1 : decode cX10_rest 1 = .ok (.invokestatic 261, 3) := by decide +kernel
theorem dX10_rest_4 : decode cX10_rest 4 = .ok (.ifCond .ne 6, 3) := by decide +kernel
theorem dX10_rest_7 : decode cX10_rest 7 = .ok (.ldc 91, 2) := by decide +kernel
theorem dX10_rest_9 : decode cX10_rest 9 = .ok (.ireturn, 1) := by decide +kernel
theorem dX10_rest_10 : decode cX10_rest 10 = .ok (.aload_n 0, 1) := by decide +kernel
theorem dX10_rest_11 : decode cX10_rest 11 = .ok (.getfield 61, 3) := by decide +kernel
theorem dX10_rest_14 : decode cX10_rest 14 = .ok (.iload_n 1, 1) := by decide +kernel
theorem dX10_rest_15 : decode cX10_rest 15 = .ok (.iaload, 1) := by decide +kernel
theorem dX10_rest_16 : decode cX10_rest 16 = .ok (.ifCond .ne 6, 3) := by decide +kernel
theorem dX10_rest_19 : decode cX10_rest 19 = .ok (.ldc 189, 2) := by decide +kernel
theorem dX10_rest_21 : decode cX10_rest 21 = .ok (.ireturn, 1) := by decide +kernel
theorem dX10_rest_22 : decode cX10_rest 22 = .ok (.aload_n 0, 1) := by decide +kernel
theorem dX10_rest_23 : decode cX10_rest 23 = .ok (.getfield 61, 3) := by decide +kernel
theorem dX10_rest_26 : decode cX10_rest 26 = .ok (.iload_n 1, 1) := by decide +kernel
theorem dX10_rest_27 : decode cX10_rest 27 = .ok (.iaload, 1) := by decide +kernel
theorem dX10_rest_28 : decode cX10_rest 28 = .ok (.iconst 3, 1) := by decide +kernel
theorem dX10_rest_29 : decode cX10_rest 29 = .ok (.if_icmp .eq 6, 3) := by decide +kernel
theorem dX10_rest_32 : decode cX10_rest 32 = .ok (.ldc 139, 2) := by decide +kernel
theorem dX10_rest_34 : decode cX10_rest 34 = .ok (.ireturn, 1) := by decide +kernel
theorem dX10_rest_35 : decode cX10_rest 35 = .ok (.iload_n 2, 1) := by decide +kernel
theorem dX10_rest_36 : decode cX10_rest 36 = .ok (.ifCond .ne 8, 3) := by decide +kernel
theorem dX10_rest_39 : decode cX10_rest 39 = .ok (.ldc 143, 2) := by decide +kernel
theorem dX10_rest_41 : decode cX10_rest 41 = .ok (.goto 20, 3) := by decide +kernel
theorem dX10_rest_44 : decode cX10_rest 44 = .ok (.iload_n 2, 1) := by decide +kernel
theorem dX10_rest_45 : decode cX10_rest 45 = .ok (.iconst (-1), 1) := by decide +kernel
theorem dX10_rest_46 : decode cX10_rest 46 = .ok (.if_icmp .ne 7, 3) := by decide +kernel
theorem dX10_rest_49 : decode cX10_rest 49 = .ok (.iconst 0, 1) := by decide +kernel
theorem dX10_rest_50 : decode cX10_rest 50 = .ok (.goto 11, 3) := by decide +kernel
theorem dX10_rest_53 : decode cX10_rest 53 = .ok (.aload_n 0, 1) := by decide +kernel
theorem dX10_rest_54 : decode cX10_rest 54 = .ok (.getfield 64, 3) := by decide +kernel
theorem dX10_rest_57 : decode cX10_rest 57 = .ok (.iload_n 1, 1) := by decide +kernel
theorem dX10_rest_58 : decode cX10_rest 58 = .ok (.iaload, 1) := by decide +kernel
theorem dX10_rest_59 : decode cX10_rest 59 = .ok (.iload_n 2, 1) := by decide +kernel
theorem dX10_rest_60 : decode cX10_rest 60 = .ok (.irem, 1) := by decide +kernel
theorem dX10_rest_61 : decode cX10_rest 61 = .ok (.ireturn, 1) := by decide +kernel
abbrev x_X10_rest (E : mh_E) (d mc ms : Nat) (Post : Option Value → mh_H → Prop) : mh_X := (E, yX10_rest, cX10_rest, 3, (some .int), d, mc, ms, Post)
def q_X10_rest_61 (X : mh_X) : mh_PR := s_iret X
theorem b_X10_rest_61 {E : mh_E} {d mc ms : Nat} {Post : Option Value → mh_H → Prop} : mh_S (x_X10_rest E d mc ms Post) 61 (q_X10_rest_61 (x_X10_rest E d mc ms Post)) := sn_iret rfl dX10_rest_61
def q_X10_rest_0 (X : mh_X) : mh_PR := s_il 1 (s_cs X yX10_isSlot 1 (s_if1 (fun x => ¬ x = 0) (s_al 0 (s_gr 10 27 (s_il 1 (s_ald 0 (s_if1 (fun x => ¬ x = 0) (s_al 0 (s_gr 10 27 (s_il 1 (s_ald 0 (s_push (.int (3)) (s_if2 (fun x y => x = y) (s_il 2 (s_if1 (fun x => ¬ x = 0) (s_il 2 (s_push (.int (-1)) (s_if2 (fun x y => ¬ x = y) (s_al 0 (s_gr 10 28 (s_il 1 (s_ald 0 (s_il 2 (s_div mh_rem (q_X10_rest_61 X))))))) (s_push (.int (0)) (q_X10_rest_61 X))))) (s_push (.int (-1000000002)) (q_X10_rest_61 X)))) (s_push (.int (-1000000012)) (s_iret X)))))))) (s_push (.int (-1000000011)) (s_iret X))))))) (s_push (.int (-1000000001)) (s_iret X))))
theorem b_X10_rest_0 {E : mh_E} {d mc ms : Nat} {Post : Option Value → mh_H → Prop} : mh_S (x_X10_rest E d mc ms Post) 0 (q_X10_rest_0 (x_X10_rest E d mc ms Post)) := sn_iload_n dX10_rest_0 rfl (sn_cs w_1528 w_1529 w_66 nm_X10_isSlot dX10_rest_1 (sn_if_ne (tgt := 10) dX10_rest_4 (by decide) (sn_aload_n dX10_rest_10 rfl (sn_getr clX10 (by decide) w_1127 dX10_rest_11 (sn_iload_n dX10_rest_14 rfl (sn_iaload dX10_rest_15 (sn_if_ne (tgt := 22) dX10_rest_16 (by decide) (sn_aload_n dX10_rest_22 rfl (sn_getr clX10 (by decide) w_1127 dX10_rest_23 (sn_iload_n dX10_rest_26 rfl (sn_iaload dX10_rest_27 (sn_iconst dX10_rest_28 (by decide) (sn_icmp_eq (tgt := 35) dX10_rest_29 (by decide) (sn_iload_n dX10_rest_35 rfl (sn_if_ne (tgt := 44) dX10_rest_36 (by decide) (sn_iload_n dX10_rest_44 rfl (sn_iconst dX10_rest_45 (by decide) (sn_icmp_ne (tgt := 53) dX10_rest_46 (by decide) (sn_aload_n dX10_rest_53 rfl (sn_getr clX10 (by decide) w_1128 dX10_rest_54 (sn_iload_n dX10_rest_57 rfl (sn_iaload dX10_rest_58 (sn_iload_n dX10_rest_59 rfl (sn_irem dX10_rest_60 b_X10_rest_61)))))) (sn_iconst dX10_rest_49 (by decide) (sn_goto (tgt := 61) dX10_rest_50 (by decide) (b_X10_rest_61)))))) (sn_ldc dX10_rest_39 w_1302 (sn_goto (tgt := 61) dX10_rest_41 (by decide) (b_X10_rest_61))))) (sn_ldc dX10_rest_32 w_1285 (sn_iret rfl dX10_rest_34)))))))) (sn_ldc dX10_rest_19 w_1429 (sn_iret rfl dX10_rest_21))))))) (sn_ldc dX10_rest_7 w_1216 (sn_iret rfl dX10_rest_9))))
theorem m_X10_rest {E : mh_E} {d mc ms : Nat} {args : List Value} {h : mh_H} {Post : Option Value → mh_H → Prop} (lv : List (Option Value)) (hl : lv_args 0 args = mh_al 0 lv) (hs : (lg_sl args).length ≤ 3) (hG : q_X10_rest_0 (x_X10_rest E d mc ms Post) lv [] h 0 0) : mh_M E d mc ms yX10_rest args h Post := mh_M.of w_1542 (by decide) (by decide) hl hs (b_X10_rest_0 _ _ _ _ _ hG)
