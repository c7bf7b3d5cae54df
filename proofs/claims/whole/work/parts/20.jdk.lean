theorem dJ6_bitCount_0f7a4_0 : decode cJ6_bitCount_0f7a4 0 = .ok (.iload_n 0, 1) := by decide +kernel
theorem dJ6_bitCount_0f7a4_1 : decode cJ6_bitCount_0f7a4 1 = .ok (.iload_n 0, 1) := by decide +kernel
theorem dJ6_bitCount_0f7a4_2 : decode cJ6_bitCount_0f7a4 2 = .ok (.iconst 1, 1) := by decide +kernel
theorem dJ6_bitCount_0f7a4_3 : decode cJ6_bitCount_0f7a4 3 = .ok (.iushr, 1) := by decide +kernel
theorem dJ6_bitCount_0f7a4_4 : decode cJ6_bitCount_0f7a4 4 = .ok (.ldc_w 265, 3) := by decide +kernel
theorem dJ6_bitCount_0f7a4_7 : decode cJ6_bitCount_0f7a4 7 = .ok (.iand, 1) := by decide +kernel
theorem dJ6_bitCount_0f7a4_8 : decode cJ6_bitCount_0f7a4 8 = .ok (.isub, 1) := by decide +kernel
theorem dJ6_bitCount_0f7a4_9 : decode cJ6_bitCount_0f7a4 9 = .ok (.istore_n 0, 1) := by decide +kernel
theorem dJ6_bitCount_0f7a4_10 : decode cJ6_bitCount_0f7a4 10 = .ok (.iload_n 0, 1) := by decide +kernel
theorem dJ6_bitCount_0f7a4_11 : decode cJ6_bitCount_0f7a4 11 = .ok (.ldc_w 266, 3) := by decide +kernel
theorem dJ6_bitCount_0f7a4_14 : decode cJ6_bitCount_0f7a4 14 = .ok (.iand, 1) := by decide +kernel
theorem dJ6_bitCount_0f7a4_15 : decode cJ6_bitCount_0f7a4 15 = .ok (.iload_n 0, 1) := by decide +kernel
theorem dJ6_bitCount_0f7a4_16 : decode cJ6_bitCount_0f7a4 16 = .ok (.iconst 2, 1) := by decide +kernel
theorem dJ6_bitCount_0f7a4_17 : decode cJ6_bitCount_0f7a4 17 = .ok (.iushr, 1) := by decide +kernel
theorem dJ6_bitCount_0f7a4_18 : decode cJ6_bitCount_0f7a4 18 = .ok (.ldc_w 266, 3) := by decide +kernel
theorem dJ6_bitCount_0f7a4_21 : decode cJ6_bitCount_0f7a4 21 = .ok (.iand, 1) := by decide +kernel
theorem dJ6_bitCount_0f7a4_22 : decode cJ6_bitCount_0f7a4 22 = .ok (.iadd, 1) := by decide +kernel
theorem dJ6_bitCount_0f7a4_23 : decode cJ6_bitCount_0f7a4 23 = .ok (.istore_n 0, 1) := by decide +kernel
theorem dJ6_bitCount_0f7a4_24 : decode cJ6_bitCount_0f7a4 24 = .ok (.iload_n 0, 1) := by decide +kernel
theorem dJ6_bitCount_0f7a4_25 : decode cJ6_bitCount_0f7a4 25 = .ok (.iload_n 0, 1) := by decide +kernel
theorem dJ6_bitCount_0f7a4_26 : decode cJ6_bitCount_0f7a4 26 = .ok (.iconst 4, 1) := by decide +kernel
theorem dJ6_bitCount_0f7a4_27 : decode cJ6_bitCount_0f7a4 27 = .ok (.iushr, 1) := by decide +kernel
theorem dJ6_bitCount_0f7a4_28 : decode cJ6_bitCount_0f7a4 28 = .ok (.iadd, 1) := by decide +kernel
theorem dJ6_bitCount_0f7a4_29 : decode cJ6_bitCount_0f7a4 29 = .ok (.ldc_w 267, 3) := by decide +kernel
theorem dJ6_bitCount_0f7a4_32 : decode cJ6_bitCount_0f7a4 32 = .ok (.iand, 1) := by decide +kernel
theorem dJ6_bitCount_0f7a4_33 : decode cJ6_bitCount_0f7a4 33 = .ok (.istore_n 0, 1) := by decide +kernel
theorem dJ6_bitCount_0f7a4_34 : decode cJ6_bitCount_0f7a4 34 = .ok (.iload_n 0, 1) := by decide +kernel
theorem dJ6_bitCount_0f7a4_35 : decode cJ6_bitCount_0f7a4 35 = .ok (.iload_n 0, 1) := by decide +kernel
theorem dJ6_bitCount_0f7a4_36 : decode cJ6_bitCount_0f7a4 36 = .ok (.bipush 8, 2) := by decide +kernel
theorem dJ6_bitCount_0f7a4_38 : decode cJ6_bitCount_0f7a4 38 = .ok (.iushr, 1) := by decide +kernel
theorem dJ6_bitCount_0f7a4_39 : decode cJ6_bitCount_0f7a4 39 = .ok (.iadd, 1) := by decide +kernel
theorem dJ6_bitCount_0f7a4_40 : decode cJ6_bitCount_0f7a4 40 = .ok (.istore_n 0, 1) := by decide +kernel
theorem dJ6_bitCount_0f7a4_41 : decode cJ6_bitCount_0f7a4 41 = .ok (.iload_n 0, 1) := by decide +kernel
theorem dJ6_bitCount_0f7a4_42 : decode cJ6_bitCount_0f7a4 42 = .ok (.iload_n 0, 1) := by decide +kernel
theorem dJ6_bitCount_0f7a4_43 : decode cJ6_bitCount_0f7a4 43 = .ok (.bipush 16, 2) := by decide +kernel
theorem dJ6_bitCount_0f7a4_45 : decode cJ6_bitCount_0f7a4 45 = .ok (.iushr, 1) := by decide +kernel
theorem dJ6_bitCount_0f7a4_46 : decode cJ6_bitCount_0f7a4 46 = .ok (.iadd, 1) := by decide +kernel
theorem dJ6_bitCount_0f7a4_47 : decode cJ6_bitCount_0f7a4 47 = .ok (.istore_n 0, 1) := by decide +kernel
theorem dJ6_bitCount_0f7a4_48 : decode cJ6_bitCount_0f7a4 48 = .ok (.iload_n 0, 1) := by decide +kernel
theorem dJ6_bitCount_0f7a4_49 : decode cJ6_bitCount_0f7a4 49 = .ok (.bipush 63, 2) := by decide +kernel
theorem dJ6_bitCount_0f7a4_51 : decode cJ6_bitCount_0f7a4 51 = .ok (.iand, 1) := by decide +kernel
theorem dJ6_bitCount_0f7a4_52 : decode cJ6_bitCount_0f7a4 52 = .ok (.ireturn, 1) := by decide +kernel
abbrev x_J6_bitCount_0f7a4 (E : mh_E) (d mc ms : Nat) (Post : Option Value → mh_H → Prop) : mh_X := (E, yJ6_bitCount_0f7a4, cJ6_bitCount_0f7a4, 1, (some .int), d, mc, ms, Post)
def q_J6_bitCount_0f7a4_0 (X : mh_X) : mh_PR := s_il 0 (s_il 0 (s_push (.int (1)) (s_bin mh_ush (s_push (.int (1431655765)) (s_bin (fun x y => x &&& y) (s_bin (fun x y => x - y) (s_is 0 (s_il 0 (s_push (.int (858993459)) (s_bin (fun x y => x &&& y) (s_il 0 (s_push (.int (2)) (s_bin mh_ush (s_push (.int (858993459)) (s_bin (fun x y => x &&& y) (s_bin (fun x y => x + y) (s_is 0 (s_il 0 (s_il 0 (s_push (.int (4)) (s_bin mh_ush (s_bin (fun x y => x + y) (s_push (.int (252645135)) (s_bin (fun x y => x &&& y) (s_is 0 (s_il 0 (s_il 0 (s_push (.int (8)) (s_bin mh_ush (s_bin (fun x y => x + y) (s_is 0 (s_il 0 (s_il 0 (s_push (.int (16)) (s_bin mh_ush (s_bin (fun x y => x + y) (s_is 0 (s_il 0 (s_push (.int (63)) (s_bin (fun x y => x &&& y) (s_iret X)))))))))))))))))))))))))))))))))))))))))
theorem b_J6_bitCount_0f7a4_0 {E : mh_E} {d mc ms : Nat} {Post : Option Value → mh_H → Prop} : mh_S (x_J6_bitCount_0f7a4 E d mc ms Post) 0 (q_J6_bitCount_0f7a4_0 (x_J6_bitCount_0f7a4 E d mc ms Post)) := sn_iload_n dJ6_bitCount_0f7a4_0 rfl (sn_iload_n dJ6_bitCount_0f7a4_1 rfl (sn_iconst dJ6_bitCount_0f7a4_2 (by decide) (sn_iushr dJ6_bitCount_0f7a4_3 (sn_ldcw dJ6_bitCount_0f7a4_4 w_632 (sn_iand dJ6_bitCount_0f7a4_7 (sn_isub dJ6_bitCount_0f7a4_8 (sn_istore_n dJ6_bitCount_0f7a4_9 rfl (Nat.le_of_ble_eq_true rfl) (sn_iload_n dJ6_bitCount_0f7a4_10 rfl (sn_ldcw dJ6_bitCount_0f7a4_11 w_633 (sn_iand dJ6_bitCount_0f7a4_14 (sn_iload_n dJ6_bitCount_0f7a4_15 rfl (sn_iconst dJ6_bitCount_0f7a4_16 (by decide) (sn_iushr dJ6_bitCount_0f7a4_17 (sn_ldcw dJ6_bitCount_0f7a4_18 w_633 (sn_iand dJ6_bitCount_0f7a4_21 (sn_iadd dJ6_bitCount_0f7a4_22 (sn_istore_n dJ6_bitCount_0f7a4_23 rfl (Nat.le_of_ble_eq_true rfl) (sn_iload_n dJ6_bitCount_0f7a4_24 rfl (sn_iload_n dJ6_bitCount_0f7a4_25 rfl (sn_iconst dJ6_bitCount_0f7a4_26 (by decide) (sn_iushr dJ6_bitCount_0f7a4_27 (sn_iadd dJ6_bitCount_0f7a4_28 (sn_ldcw dJ6_bitCount_0f7a4_29 w_634 (sn_iand dJ6_bitCount_0f7a4_32 (sn_istore_n dJ6_bitCount_0f7a4_33 rfl (Nat.le_of_ble_eq_true rfl) (sn_iload_n dJ6_bitCount_0f7a4_34 rfl (sn_iload_n dJ6_bitCount_0f7a4_35 rfl (sn_bipush dJ6_bitCount_0f7a4_36 (by decide) (sn_iushr dJ6_bitCount_0f7a4_38 (sn_iadd dJ6_bitCount_0f7a4_39 (sn_istore_n dJ6_bitCount_0f7a4_40 rfl (Nat.le_of_ble_eq_true rfl) (sn_iload_n dJ6_bitCount_0f7a4_41 rfl (sn_iload_n dJ6_bitCount_0f7a4_42 rfl (sn_bipush dJ6_bitCount_0f7a4_43 (by decide) (sn_iushr dJ6_bitCount_0f7a4_45 (sn_iadd dJ6_bitCount_0f7a4_46 (sn_istore_n dJ6_bitCount_0f7a4_47 rfl (Nat.le_of_ble_eq_true rfl) (sn_iload_n dJ6_bitCount_0f7a4_48 rfl (sn_bipush dJ6_bitCount_0f7a4_49 (by decide) (sn_iand dJ6_bitCount_0f7a4_51 (sn_iret rfl dJ6_bitCount_0f7a4_52)))))))))))))))))))))))))))))))))))))))))
theorem m_J6_bitCount_0f7a4 {E : mh_E} {d mc ms : Nat} {args : List Value} {h : mh_H} {Post : Option Value → mh_H → Prop} (lv : List (Option Value)) (hl : lv_args 0 args = mh_al 0 lv) (hs : (lg_sl args).length ≤ 1) (hG : q_J6_bitCount_0f7a4_0 (x_J6_bitCount_0f7a4 E d mc ms Post) lv [] h 0 0) : mh_M E d mc ms yJ6_bitCount_0f7a4 args h Post := mh_M.of w_631 (by decide) (by decide) hl hs (b_J6_bitCount_0f7a4_0 _ _ _ _ _ hG)
theorem dJ9_abs_0f7a4_0 : decode cJ9_abs_0f7a4 0 = .ok (.iload_n 0, 1) := by decide +kernel
theorem dJ9_abs_0f7a4_1 : decode cJ9_abs_0f7a4 1 = .ok (.ifCond .ge 8, 3) := by decide +kernel
theorem dJ9_abs_0f7a4_4 : decode cJ9_abs_0f7a4 4 = .ok (.iload_n 0, 1) := by decide +kernel
theorem dJ9_abs_0f7a4_5 : decode cJ9_abs_0f7a4 5 = .ok (.ineg, 1) := by decide +kernel
theorem dJ9_abs_0f7a4_6 : decode cJ9_abs_0f7a4 6 = .ok (.goto 4, 3) := by decide +kernel
theorem dJ9_abs_0f7a4_9 : decode cJ9_abs_0f7a4 9 = .ok (.iload_n 0, 1) := by decide +kernel
theorem dJ9_abs_0f7a4_10 : decode cJ9_abs_0f7a4 10 = .ok (.ireturn, 1) := by decide +kernel
abbrev x_J9_abs_0f7a4 (E : mh_E) (d mc ms : Nat) (Post : Option Value → mh_H → Prop) : mh_X := (E, yJ9_abs_0f7a4, cJ9_abs_0f7a4, 1, (some .int), d, mc, ms, Post)
def q_J9_abs_0f7a4_10 (X : mh_X) : mh_PR := s_iret X
theorem b_J9_abs_0f7a4_10 {E : mh_E} {d mc ms : Nat} {Post : Option Value → mh_H → Prop} : mh_S (x_J9_abs_0f7a4 E d mc ms Post) 10 (q_J9_abs_0f7a4_10 (x_J9_abs_0f7a4 E d mc ms Post)) := sn_iret rfl dJ9_abs_0f7a4_10
def q_J9_abs_0f7a4_0 (X : mh_X) : mh_PR := s_il 0 (s_if1 (fun x => 0 ≤ x) (s_il 0 (q_J9_abs_0f7a4_10 X)) (s_il 0 (s_un (fun x => -x) (q_J9_abs_0f7a4_10 X))))
theorem b_J9_abs_0f7a4_0 {E : mh_E} {d mc ms : Nat} {Post : Option Value → mh_H → Prop} : mh_S (x_J9_abs_0f7a4 E d mc ms Post) 0 (q_J9_abs_0f7a4_0 (x_J9_abs_0f7a4 E d mc ms Post)) := sn_iload_n dJ9_abs_0f7a4_0 rfl (sn_if_ge (tgt := 9) dJ9_abs_0f7a4_1 (by decide) (sn_iload_n dJ9_abs_0f7a4_9 rfl b_J9_abs_0f7a4_10) (sn_iload_n dJ9_abs_0f7a4_4 rfl (sn_ineg dJ9_abs_0f7a4_5 (sn_goto (tgt := 10) dJ9_abs_0f7a4_6 (by decide) (b_J9_abs_0f7a4_10)))))
theorem m_J9_abs_0f7a4 {E : mh_E} {d mc ms : Nat} {args : List Value} {h : mh_H} {Post : Option Value → mh_H → Prop} (lv : List (Option Value)) (hl : lv_args 0 args = mh_al 0 lv) (hs : (lg_sl args).length ≤ 1) (hG : q_J9_abs_0f7a4_0 (x_J9_abs_0f7a4 E d mc ms Post) lv [] h 0 0) : mh_M E d mc ms yJ9_abs_0f7a4 args h Post := mh_M.of w_753 (by decide) (by decide) hl hs (b_J9_abs_0f7a4_0 _ _ _ _ _ hG)
theorem dJ9_max_7cf53_0 : decode cJ9_max_7cf53 0 = .ok (.iload_n 0, 1) := by decide +kernel
theorem dJ9_max_7cf53_1 : decode cJ9_max_7cf53 1 = .ok (.iload_n 1, 1) := by decide +kernel
theorem dJ9_max_7cf53_2 : decode cJ9_max_7cf53 2 = .ok (.if_icmp .lt 7, 3) := by decide +kernel
theorem dJ9_max_7cf53_5 : decode cJ9_max_7cf53 5 = .ok (.iload_n 0, 1) := by decide +kernel
theorem dJ9_max_7cf53_6 : decode cJ9_max_7cf53 6 = .ok (.goto 4, 3) := by decide +kernel
theorem dJ9_max_7cf53_9 : decode cJ9_max_7cf53 9 = .ok (.iload_n 1, 1) := by decide +kernel
theorem dJ9_max_7cf53_10 : decode cJ9_max_7cf53 10 = .ok (.ireturn, 1) := by decide +kernel
abbrev x_J9_max_7cf53 (E : mh_E) (d mc ms : Nat) (Post : Option Value → mh_H → Prop) : mh_X := (E, yJ9_max_7cf53, cJ9_max_7cf53, 2, (some .int), d, mc, ms, Post)
def q_J9_max_7cf53_10 (X : mh_X) : mh_PR := s_iret X
theorem b_J9_max_7cf53_10 {E : mh_E} {d mc ms : Nat} {Post : Option Value → mh_H → Prop} : mh_S (x_J9_max_7cf53 E d mc ms Post) 10 (q_J9_max_7cf53_10 (x_J9_max_7cf53 E d mc ms Post)) := sn_iret rfl dJ9_max_7cf53_10
def q_J9_max_7cf53_0 (X : mh_X) : mh_PR := s_il 0 (s_il 1 (s_if2 (fun x y => x < y) (s_il 1 (q_J9_max_7cf53_10 X)) (s_il 0 (q_J9_max_7cf53_10 X))))
theorem b_J9_max_7cf53_0 {E : mh_E} {d mc ms : Nat} {Post : Option Value → mh_H → Prop} : mh_S (x_J9_max_7cf53 E d mc ms Post) 0 (q_J9_max_7cf53_0 (x_J9_max_7cf53 E d mc ms Post)) := sn_iload_n dJ9_max_7cf53_0 rfl (sn_iload_n dJ9_max_7cf53_1 rfl (sn_icmp_lt (tgt := 9) dJ9_max_7cf53_2 (by decide) (sn_iload_n dJ9_max_7cf53_9 rfl b_J9_max_7cf53_10) (sn_iload_n dJ9_max_7cf53_5 rfl (sn_goto (tgt := 10) dJ9_max_7cf53_6 (by decide) (b_J9_max_7cf53_10)))))
theorem m_J9_max_7cf53 {E : mh_E} {d mc ms : Nat} {args : List Value} {h : mh_H} {Post : Option Value → mh_H → Prop} (lv : List (Option Value)) (hl : lv_args 0 args = mh_al 0 lv) (hs : (lg_sl args).length ≤ 2) (hG : q_J9_max_7cf53_0 (x_J9_max_7cf53 E d mc ms Post) lv [] h 0 0) : mh_M E d mc ms yJ9_max_7cf53 args h Post := mh_M.of w_428 (by decide) (by decide) hl hs (b_J9_max_7cf53_0 _ _ _ _ _ hG)
theorem dJ9_min_7cf53_0 : decode cJ9_min_7cf53 0 = .ok (.iload_n 0, 1) := by decide +kernel
theorem dJ9_min_7cf53_1 : decode cJ9_min_7cf53 1 = .ok (.iload_n 1, 1) := by decide +kernel
theorem dJ9_min_7cf53_2 : decode cJ9_min_7cf53 2 = .ok (.if_icmp .gt 7, 3) := by decide +kernel
theorem dJ9_min_7cf53_5 : decode cJ9_min_7cf53 5 = .ok (.iload_n 0, 1) := by decide +kernel
theorem dJ9_min_7cf53_6 : decode cJ9_min_7cf53 6 = .ok (.goto 4, 3) := by decide +kernel
theorem dJ9_min_7cf53_9 : decode cJ9_min_7cf53 9 = .ok (.iload_n 1, 1) := by decide +kernel
theorem dJ9_min_7cf53_10 : decode cJ9_min_7cf53 10 = .ok (.ireturn, 1) := by decide +kernel
abbrev x_J9_min_7cf53 (E : mh_E) (d mc ms : Nat) (Post : Option Value → mh_H → Prop) : mh_X := (E, yJ9_min_7cf53, cJ9_min_7cf53, 2, (some .int), d, mc, ms, Post)
def q_J9_min_7cf53_10 (X : mh_X) : mh_PR := s_iret X
theorem b_J9_min_7cf53_10 {E : mh_E} {d mc ms : Nat} {Post : Option Value → mh_H → Prop} : mh_S (x_J9_min_7cf53 E d mc ms Post) 10 (q_J9_min_7cf53_10 (x_J9_min_7cf53 E d mc ms Post)) := sn_iret rfl dJ9_min_7cf53_10
def q_J9_min_7cf53_0 (X : mh_X) : mh_PR := s_il 0 (s_il 1 (s_if2 (fun x y => y < x) (s_il 1 (q_J9_min_7cf53_10 X)) (s_il 0 (q_J9_min_7cf53_10 X))))
theorem b_J9_min_7cf53_0 {E : mh_E} {d mc ms : Nat} {Post : Option Value → mh_H → Prop} : mh_S (x_J9_min_7cf53 E d mc ms Post) 0 (q_J9_min_7cf53_0 (x_J9_min_7cf53 E d mc ms Post)) := sn_iload_n dJ9_min_7cf53_0 rfl (sn_iload_n dJ9_min_7cf53_1 rfl (sn_icmp_gt (tgt := 9) dJ9_min_7cf53_2 (by decide) (sn_iload_n dJ9_min_7cf53_9 rfl b_J9_min_7cf53_10) (sn_iload_n dJ9_min_7cf53_5 rfl (sn_goto (tgt := 10) dJ9_min_7cf53_6 (by decide) (b_J9_min_7cf53_10)))))
theorem m_J9_min_7cf53 {E : mh_E} {d mc ms : Nat} {args : List Value} {h : mh_H} {Post : Option Value → mh_H → Prop} (lv : List (Option Value)) (hl : lv_args 0 args = mh_al 0 lv) (hs : (lg_sl args).length ≤ 2) (hG : q_J9_min_7cf53_0 (x_J9_min_7cf53 E d mc ms Post) lv [] h 0 0) : mh_M E d mc ms yJ9_min_7cf53 args h Post := mh_M.of w_459 (by decide) (by decide) hl hs (b_J9_min_7cf53_0 _ _ _ _ _ hG)
theorem dJ7_fill_53178_0 : decode cJ7_fill_53178 0 = .ok (.iconst 0, 1) := by decide +kernel
theorem dJ7_fill_53178_1 : decode cJ7_fill_53178 1 = .ok (.istore_n 2, 1) := by decide +kernel
theorem dJ7_fill_53178_2 : decode cJ7_fill_53178 2 = .ok (.aload_n 0, 1) := by decide +kernel
theorem dJ7_fill_53178_3 : decode cJ7_fill_53178 3 = .ok (.arraylength, 1) := by decide +kernel
theorem dJ7_fill_53178_4 : decode cJ7_fill_53178 4 = .ok (.istore_n 3, 1) := by decide +kernel
theorem dJ7_fill_53178_5 : decode cJ7_fill_53178 5 = .ok (.iload_n 2, 1) := by decide +kernel
theorem dJ7_fill_53178_6 : decode cJ7_fill_53178 6 = .ok (.iload_n 3, 1) := by decide +kernel
theorem dJ7_fill_53178_7 : decode cJ7_fill_53178 7 = .ok (.if_icmp .ge 13, 3) := by decide +kernel
theorem dJ7_fill_53178_10 : decode cJ7_fill_53178 10 = .ok (.aload_n 0, 1) := by decide +kernel
theorem dJ7_fill_53178_11 : decode cJ7_fill_53178 11 = .ok (.iload_n 2, 1) := by decide +kernel
theorem dJ7_fill_53178_12 : decode cJ7_fill_53178 12 = .ok (.iload_n 1, 1) := by decide +kernel
theorem dJ7_fill_53178_13 : decode cJ7_fill_53178 13 = .ok (.iastore, 1) := by decide +kernel
theorem dJ7_fill_53178_14 : decode cJ7_fill_53178 14 = .ok (.iinc 2 1, 3) := by decide +kernel
theorem dJ7_fill_53178_17 : decode cJ7_fill_53178 17 = .ok (.goto (-12), 3) := by decide +kernel
theorem dJ7_fill_53178_20 : decode cJ7_fill_53178 20 = .ok (.return_, 1) := by decide +kernel
abbrev x_J7_fill_53178 (E : mh_E) (d mc ms : Nat) (Post : Option Value → mh_H → Prop) : mh_X := (E, yJ7_fill_53178, cJ7_fill_53178, 4, none, d, mc, ms, Post)
def q_J7_fill_53178_5 (X : mh_X) : mh_PR := s_il 2 (s_il 3 (s_if2 (fun x y => y ≤ x) (s_vret X) (s_al 0 (s_il 2 (s_il 1 (s_ast 0 (fun x => x) (s_inc 2 (1) (mh_G X 5))))))))
theorem b_J7_fill_53178_5 {E : mh_E} {d mc ms : Nat} {Post : Option Value → mh_H → Prop} : mh_S (x_J7_fill_53178 E d mc ms Post) 5 (q_J7_fill_53178_5 (x_J7_fill_53178 E d mc ms Post)) := sn_iload_n dJ7_fill_53178_5 rfl (sn_iload_n dJ7_fill_53178_6 rfl (sn_icmp_ge (tgt := 20) dJ7_fill_53178_7 (by decide) (sn_vret rfl dJ7_fill_53178_20) (sn_aload_n dJ7_fill_53178_10 rfl (sn_iload_n dJ7_fill_53178_11 rfl (sn_iload_n dJ7_fill_53178_12 rfl (sn_iastore dJ7_fill_53178_13 (sn_iinc dJ7_fill_53178_14 (by decide) (Nat.le_of_ble_eq_true rfl) (sn_goto (tgt := 5) dJ7_fill_53178_17 (by decide) (mh_S.G)))))))))
def q_J7_fill_53178_0 (X : mh_X) : mh_PR := s_push (.int (0)) (s_is 2 (s_al 0 (s_alen (s_is 3 (mh_G X 5)))))
theorem b_J7_fill_53178_0 {E : mh_E} {d mc ms : Nat} {Post : Option Value → mh_H → Prop} : mh_S (x_J7_fill_53178 E d mc ms Post) 0 (q_J7_fill_53178_0 (x_J7_fill_53178 E d mc ms Post)) := sn_iconst dJ7_fill_53178_0 (by decide) (sn_istore_n dJ7_fill_53178_1 rfl (Nat.le_of_ble_eq_true rfl) (sn_aload_n dJ7_fill_53178_2 rfl (sn_alen dJ7_fill_53178_3 (sn_istore_n dJ7_fill_53178_4 rfl (Nat.le_of_ble_eq_true rfl) mh_S.G))))
theorem m_J7_fill_53178 {E : mh_E} {d mc ms : Nat} {args : List Value} {h : mh_H} {Post : Option Value → mh_H → Prop} (lv : List (Option Value)) (hl : lv_args 0 args = mh_al 0 lv) (hs : (lg_sl args).length ≤ 4) (hG : q_J7_fill_53178_0 (x_J7_fill_53178 E d mc ms Post) lv [] h 0 0) : mh_M E d mc ms yJ7_fill_53178 args h Post := mh_M.of w_125 (by decide) (by decide) hl hs (b_J7_fill_53178_0 _ _ _ _ _ hG)
theorem dJ7_copyOf_59c91_0 : decode cJ7_copyOf_59c91 0 = .ok (.iload_n 1, 1) := by decide +kernel
theorem dJ7_copyOf_59c91_1 : decode cJ7_copyOf_59c91 1 = .ok (.aload_n 0, 1) := by decide +kernel
theorem dJ7_copyOf_59c91_2 : decode cJ7_copyOf_59c91 2 = .ok (.arraylength, 1) := by decide +kernel
theorem dJ7_copyOf_59c91_3 : decode cJ7_copyOf_59c91 3 = .ok (.if_icmp .ne 11, 3) := by decide +kernel
theorem dJ7_copyOf_59c91_6 : decode cJ7_copyOf_59c91 6 = .ok (.aload_n 0, 1) := by decide +kernel
theorem dJ7_copyOf_59c91_7 : decode cJ7_copyOf_59c91 7 = .ok (.invokevirtual 316, 3) := by decide +kernel
theorem dJ7_copyOf_59c91_10 : decode cJ7_copyOf_59c91 10 = .ok (.checkcast 317, 3) := by decide +kernel
theorem dJ7_copyOf_59c91_13 : decode cJ7_copyOf_59c91 13 = .ok (.areturn, 1) := by decide +kernel
theorem dJ7_copyOf_59c91_14 : decode cJ7_copyOf_59c91 14 = .ok (.iload_n 1, 1) := by decide +kernel
theorem dJ7_copyOf_59c91_15 : decode cJ7_copyOf_59c91 15 = .ok (.newarray .int, 2) := by decide +kernel
theorem dJ7_copyOf_59c91_17 : decode cJ7_copyOf_59c91 17 = .ok (.astore_n 2, 1) := by decide +kernel
theorem dJ7_copyOf_59c91_18 : decode cJ7_copyOf_59c91 18 = .ok (.aload_n 0, 1) := by decide +kernel
theorem dJ7_copyOf_59c91_19 : decode cJ7_copyOf_59c91 19 = .ok (.iconst 0, 1) := by decide +kernel
theorem dJ7_copyOf_59c91_20 : decode cJ7_copyOf_59c91 20 = .ok (.aload_n 2, 1) := by decide +kernel
theorem dJ7_copyOf_59c91_21 : decode cJ7_copyOf_59c91 21 = .ok (.iconst 0, 1) := by decide +kernel
theorem dJ7_copyOf_59c91_22 : decode cJ7_copyOf_59c91 22 = .ok (.aload_n 0, 1) := by decide +kernel
theorem dJ7_copyOf_59c91_23 : decode cJ7_copyOf_59c91 23 = .ok (.arraylength, 1) := by decide +kernel
theorem dJ7_copyOf_59c91_24 : decode cJ7_copyOf_59c91 24 = .ok (.iload_n 1, 1) := by decide +kernel
theorem dJ7_copyOf_59c91_25 : decode cJ7_copyOf_59c91 25 = .ok (.invokestatic 304, 3) := by decide +kernel
theorem dJ7_copyOf_59c91_28 : decode cJ7_copyOf_59c91 28 = .ok (.invokestatic 150, 3) := by decide +kernel
theorem dJ7_copyOf_59c91_31 : decode cJ7_copyOf_59c91 31 = .ok (.aload_n 2, 1) := by decide +kernel
theorem dJ7_copyOf_59c91_32 : decode cJ7_copyOf_59c91 32 = .ok (.areturn, 1) := by decide +kernel
abbrev x_J7_copyOf_59c91 (E : mh_E) (d mc ms : Nat) (Post : Option Value → mh_H → Prop) : mh_X := (E, yJ7_copyOf_59c91, cJ7_copyOf_59c91, 3, (some (.array .int)), d, mc, ms, Post)
def q_J7_copyOf_59c91_0 (X : mh_X) : mh_PR := s_il 1 (s_al 0 (s_alen (s_if2 (fun x y => ¬ x = y) (s_il 1 (s_newa X 0 (s_as 2 (s_al 0 (s_push (.int (0)) (s_al 2 (s_push (.int (0)) (s_al 0 (s_alen (s_il 1 (s_cs X yJ9_min_7cf53 2 (s_ac X (s_al 2 (s_aret X)))))))))))))) (s_al 0 (s_no)))))
theorem b_J7_copyOf_59c91_0 {E : mh_E} {d mc ms : Nat} {Post : Option Value → mh_H → Prop} : mh_S (x_J7_copyOf_59c91 E d mc ms Post) 0 (q_J7_copyOf_59c91_0 (x_J7_copyOf_59c91 E d mc ms Post)) := sn_iload_n dJ7_copyOf_59c91_0 rfl (sn_aload_n dJ7_copyOf_59c91_1 rfl (sn_alen dJ7_copyOf_59c91_2 (sn_icmp_ne (tgt := 14) dJ7_copyOf_59c91_3 (by decide) (sn_iload_n dJ7_copyOf_59c91_14 rfl (sn_newint w_111 dJ7_copyOf_59c91_15 (sn_astore_n dJ7_copyOf_59c91_17 rfl (Nat.le_of_ble_eq_true rfl) (sn_aload_n dJ7_copyOf_59c91_18 rfl (sn_iconst dJ7_copyOf_59c91_19 (by decide) (sn_aload_n dJ7_copyOf_59c91_20 rfl (sn_iconst dJ7_copyOf_59c91_21 (by decide) (sn_aload_n dJ7_copyOf_59c91_22 rfl (sn_alen dJ7_copyOf_59c91_23 (sn_iload_n dJ7_copyOf_59c91_24 rfl (sn_cs w_978 w_458 w_69 nm_J9_min_7cf53 dJ7_copyOf_59c91_25 (sn_ac w_979 w_acN w_acS w_72 dJ7_copyOf_59c91_28 (sn_aload_n dJ7_copyOf_59c91_31 rfl (sn_aret rfl (Or.inr ⟨_, rfl⟩) dJ7_copyOf_59c91_32)))))))))))))) (sn_aload_n dJ7_copyOf_59c91_6 rfl sn_no))))
theorem m_J7_copyOf_59c91 {E : mh_E} {d mc ms : Nat} {args : List Value} {h : mh_H} {Post : Option Value → mh_H → Prop} (lv : List (Option Value)) (hl : lv_args 0 args = mh_al 0 lv) (hs : (lg_sl args).length ≤ 3) (hG : q_J7_copyOf_59c91_0 (x_J7_copyOf_59c91 E d mc ms Post) lv [] h 0 0) : mh_M E d mc ms yJ7_copyOf_59c91 args h Post := mh_M.of w_970 (by decide) (by decide) hl hs (b_J7_copyOf_59c91_0 _ _ _ _ _ hG)
