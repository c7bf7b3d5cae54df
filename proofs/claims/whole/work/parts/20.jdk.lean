theorem dJ6_bitCount_0f7a4_0 : decode cJ6_bitCount_0f7a4 0 = .ok (.iload_n 0, 1) := by decide +kernel
theorem dJ6_bitCount_0f7a4_1 : decode cJ6_bitCount_0f7a4 1 = .ok (.iload_n 0, 1) := by decide +kernel
theorem dJ6_bitCount_0f7a4_2 : decode cJ6_bitCount_0f7a4 2 = .ok (.iconst 1, 1) := by decide +kernel
theorem dJ6_bitCount_0f7a4_3 : decode cJ6_bitCount_0f7a4 3 = .ok (.iushr, 1) := by decide +kernel
theorem dJ6_bitCount_0f7a4_4 : decode cJ6_bitCount_0f7a4 4 = .ok (.ldc_w 265, 3) := by decide +kernel
theorem dJ6_bitCount_0f7a4_7 : decode cJ6_bitCount_0f7a4 7 = .ok (.iand, 1) := by decide +kernel
theorem dJ6_bitCount_0f7a4_8 : decode cJ6_bitCount_0f7a4 8 = .ok (.isub, 1) := by decide +kernel
theorem dJ6_bitCount_0f7a4_9 : decode cJ6_bitCount_0f7a4 9 = .ok (.istore_n 0, 1) := by decide +kernel
theorem dJ6_bitCount_0f7a4_10 : decode cJ6_bitCount_0f7a4 10 = .ok (.iload_n 0, 1) := by decide +kernel
theorem dJ6_bitCount_0f7a4_11 : decode cJ6_bitCount_0f7a4 11 = .ok (.ldc_w 266, 3) := by decide +kernel
theorem dJ6_bitCount_0f7a4_14 : decode cJ6_bitCount_0f7a4 14 = .ok (.iand, 1) := by decide +kernel
theorem dJ6_bitCount_0f7a4_15 : decode cJ6_bitCount_0f7a4 15 = .ok (.iload_n 0, 1) := by decide +kernel
theorem dJ6_bitCount_0f7a4_16 : decode cJ6_bitCount_0f7a4 16 = .ok (.iconst 2, 1) := by decide +kernel
theorem dJ6_bitCount_0f7a4_17 : decode cJ6_bitCount_0f7a4 17 = .ok (.iushr, 1) := by decide +kernel
theorem dJ6_bitCount_0f7a4_18 : decode cJ6_bitCount_0f7a4 18 = .ok (.ldc_w 266, 3) := by decide +kernel
theorem dJ6_bitCount_0f7a4_21 : decode cJ6_bitCount_0f7a4 21 = .ok (.iand, 1) := by decide +kernel
theorem dJ6_bitCount_0f7a4_22 : decode cJ6_bitCount_0f7a4 22 = .ok (.iadd, 1) := by decide +kernel
theorem dJ6_bitCount_0f7a4_23 : decode cJ6_bitCount_0f7a4 23 = .ok (.istore_n 0, 1) := by decide +kernel
theorem dJ6_bitCount_0f7a4_24 : decode cJ6_bitCount_0f7a4 24 = .ok (.iload_n 0, 1) := by decide +kernel
theorem dJ6_bitCount_0f7a4_25 : decode cJ6_bitCount_0f7a4 25 = .ok (.iload_n 0, 1) := by decide +kernel
theorem dJ6_bitCount_0f7a4_26 : decode cJ6_bitCount_0f7a4 26 = .ok (.iconst 4, 1) := by decide +kernel
theorem dJ6_bitCount_0f7a4_27 : decode cJ6_bitCount_0f7a4 27 = .ok (.iushr, 1) := by decide +kernel
theorem dJ6_bitCount_0f7a4_28 : decode cJ6_bitCount_0f7a4 28 = .ok (.iadd, 1) := by decide +kernel
theorem dJ6_bitCount_0f7a4_29 : decode cJ6_bitCount_0f7a4 29 = .ok (.ldc_w 267, 3) := by decide +kernel
theorem dJ6_bitCount_0f7a4_32 : decode cJ6_bitCount_0f7a4 32 = .ok (.iand, 1) := by decide +kernel
theorem dJ6_bitCount_0f7a4_33 : decode cJ6_bitCount_0f7a4 33 = .ok (.istore_n 0, 1) := by decide +kernel
theorem dJ6_bitCount_0f7a4_34 : decode cJ6_bitCount_0f7a4 34 = .ok (.iload_n 0, 1) := by decide +kernel
theorem dJ6_bitCount_0f7a4_35 : decode cJ6_bitCount_0f7a4 35 = .ok (.iload_n 0, 1) := by decide +kernel
theorem dJ6_bitCount_0f7a4_36 : decode cJ6_bitCount_0f7a4 36 = .ok (.bipush 8, 2) := by decide +kernel
theorem dJ6_bitCount_0f7a4_38 : decode cJ6_bitCount_0f7a4 38 = .ok (.iushr, 1) := by decide +kernel
theorem dJ6_bitCount_0f7a4_39 : decode cJ6_bitCount_0f7a4 39 = .ok (.iadd, 1) := by decide +kernel
theorem dJ6_bitCount_0f7a4_40 : decode cJ6_bitCount_0f7a4 40 = .ok (.istore_n 0, 1) := by decide +kernel
theorem dJ6_bitCount_0f7a4_41 : decode cJ6_bitCount_0f7a4 41 = .ok (.iload_n 0, 1) := by decide +kernel
theorem dJ6_bitCount_0f7a4_42 : decode cJ6_bitCount_0f7a4 42 = .ok (.iload_n 0, 1) := by decide +kernel
theorem dJ6_bitCount_0f7a4_43 : decode cJ6_bitCount_0f7a4 43 = .ok (.bipush 16, 2) := by decide +kernel
theorem dJ6_bitCount_0f7a4_45 : decode cJ6_bitCount_0f7a4 45 = .ok (.iushr, 1) := by decide +kernel
theorem dJ6_bitCount_0f7a4_46 : decode cJ6_bitCount_0f7a4 46 = .ok (.iadd, 1) := by decide +kernel
theorem dJ6_bitCount_0f7a4_47 : decode cJ6_bitCount_0f7a4 47 = .ok (.istore_n 0, 1) := by decide +kernel
theorem dJ6_bitCount_0f7a4_48 : decode cJ6_bitCount_0f7a4 48 = .ok (.iload_n 0, 1) := by decide +kernel
theorem dJ6_bitCount_0f7a4_49 : decode cJ6_bitCount_0f7a4 49 = .ok (.bipush 63, 2) := by decide +kernel
theorem dJ6_bitCount_0f7a4_51 : decode cJ6_bitCount_0f7a4 51 = .ok (.iand, 1) := by decide +kernel
theorem dJ6_bitCount_0f7a4_52 : decode cJ6_bitCount_0f7a4 52 = .ok (.ireturn, 1) := by decide +kernel
abbrev x_J6_bitCount_0f7a4 (E : mh_E) (d mc ms : Nat) (Post : Option Value → mh_H → Prop) : mh_X := (E, yJ6_bitCount_0f7a4, cJ6_bitCount_0f7a4, 1, (some .int), d, mc, ms, Post)
def q_J6_bitCount_0f7a4_0 (X : mh_X) : mh_PR := s_il 0 (s_il 0 (s_push (.int (1)) (s_bin mh_ush (s_push (.int (1431655765)) (s_bin (fun x y => x &&& y) (s_bin (fun x y => x - y) (s_is 0 (s_il 0 (s_push (.int (858993459)) (s_bin (fun x y => x &&& y) (s_il 0 (s_push (.int (2)) (s_bin mh_ush (s_push (.int (858993459)) (s_bin (fun x y => x &&& y) (s_bin (fun x y => x + y) (s_is 0 (s_il 0 (s_il 0 (s_push (.int (4)) (s_bin mh_ush (s_bin (fun x y => x + y) (s_push (.int (252645135)) (s_bin (fun x y => x &&& y) (s_is 0 (s_il 0 (s_il 0 (s_push (.int (8)) (s_bin mh_ush (s_bin (fun x y => x + y) (s_is 0 (s_il 0 (s_il 0 (s_push (.int (16)) (s_bin mh_ush (s_bin (fun x y => x + y) (s_is 0 (s_il 0 (s_push (.int (63)) (s_bin (fun x y => x &&& y) (s_iret X)))))))))))))))))))))))))))))))))))))))))
theorem b_J6_bitCount_0f7a4_0 {E : mh_E} {d mc ms : Nat} {Post : Option Value → mh_H → Prop} : mh_S (x_J6_bitCount_0f7a4 E d mc ms Post) 0 (q_J6_bitCount_0f7a4_0 (x_J6_bitCount_0f7a4 E d mc ms Post)) := sn_iload_n dJ6_bitCount_0f7a4_0 rfl (sn_iload_n dJ6_bitCount_0f7a4_1 rfl (sn_iconst dJ6_bitCount_0f7a4_2 (by decide) (sn_iushr dJ6_bitCount_0f7a4_3 (sn_ldcw dJ6_bitCount_0f7a4_4 w_631 (sn_iand dJ6_bitCount_0f7a4_7 (sn_isub dJ6_bitCount_0f7a4_8 (sn_istore_n dJ6_bitCount_0f7a4_9 rfl (Nat.le_of_ble_eq_true rfl) (sn_iload_n dJ6_bitCount_0f7a4_10 rfl (sn_ldcw dJ6_bitCount_0f7a4_11 w_632 (sn_iand dJ6_bitCount_0f7a4_14 (sn_iload_n dJ6_bitCount_0f7a4_15 rfl (sn_iconst dJ6_bitCount_0f7a4_16 (by decide) (sn_iushr dJ6_bitCount_0f7a4_17 (sn_ldcw dJ6_bitCount_0f7a4_18 w_632 (sn_iand dJ6_bitCount_0f7a4_21 (sn_iadd dJ6_bitCount_0f7a4_22 (sn_istore_n dJ6_bitCount_0f7a4_23 rfl (Nat.le_of_ble_eq_true rfl) (sn_iload_n dJ6_bitCount_0f7a4_24 rfl (sn_iload_n dJ6_bitCount_0f7a4_25 rfl (sn_iconst dJ6_bitCount_0f7a4_26 (by decide) (sn_iushr dJ6_bitCount_0f7a4_27 (sn_iadd dJ6_bitCount_0f7a4_28 (sn_ldcw dJ6_bitCount_0f7a4_29 w_633 (sn_iand dJ6_bitCount_0f7a4_32 (sn_istore_n dJ6_bitCount_0f7a4_33 rfl (Nat.le_of_ble_eq_true rfl) (sn_iload_n dJ6_bitCount_0f7a4_34 rfl (sn_iload_n dJ6_bitCount_0f7a4_35 rfl (sn_bipush dJ6_bitCount_0f7a4_36 (by decide) (sn_iushr dJ6_bitCount_0f7a4_38 (sn_iadd dJ6_bitCount_0f7a4_39 (sn_istore_n dJ6_bitCount_0f7a4_40 rfl (Nat.le_of_ble_eq_true rfl) (sn_iload_n dJ6_bitCount_0f7a4_41 rfl (sn_iload_n dJ6_bitCount_0f7a4_42 rfl (sn_bipush dJ6_bitCount_0f7a4_43 (by decide) (sn_iushr dJ6_bitCount_0f7a4_45 (sn_iadd dJ6_bitCount_0f7a4_46 (sn_istore_n dJ6_bitCount_0f7a4_47 rfl (Nat.le_of_ble_eq_true rfl) (sn_iload_n dJ6_bitCount_0f7a4_48 rfl (sn_bipush dJ6_bitCount_0f7a4_49 (by decide) (sn_iand dJ6_bitCount_0f7a4_51 (sn_iret rfl dJ6_bitCount_0f7a4_52)))))))))))))))))))))))))))))))))))))))))
theorem m_J6_bitCount_0f7a4 {E : mh_E} {d mc ms : Nat} {args : List Value} {h : mh_H} {Post : Option Value → mh_H → Prop} (lv : List (Option Value)) (hl : lv_args 0 args = mh_al 0 lv) (hs : (lg_sl args).length ≤ 1) (hG : q_J6_bitCount_0f7a4_0 (x_J6_bitCount_0f7a4 E d mc ms Post) lv [] h 0 0) : mh_M E d mc ms yJ6_bitCount_0f7a4 args h Post := mh_M.of w_630 (by decide) (by decide) hl hs (b_J6_bitCount_0f7a4_0 _ _ _ _ _ hG)
theorem dJ0_length_8abf5_0 : decode cJ0_length_8abf5 0 = .ok (.aload_n 0, 1) := by decide +kernel
theorem dJ0_length_8abf5_1 : decode cJ0_length_8abf5 1 = .ok (.getfield 9, 3) := by decide +kernel
theorem dJ0_length_8abf5_4 : decode cJ0_length_8abf5 4 = .ok (.arraylength, 1) := by decide +kernel
theorem dJ0_length_8abf5_5 : decode cJ0_length_8abf5 5 = .ok (.aload_n 0, 1) := by decide +kernel
theorem dJ0_length_8abf5_6 : decode cJ0_length_8abf5 6 = .ok (.invokevirtual 335, 3) := by decide +kernel
theorem dJ0_length_8abf5_9 : decode cJ0_length_8abf5 9 = .ok (.ishr, 1) := by decide +kernel
theorem dJ0_length_8abf5_10 : decode cJ0_length_8abf5 10 = .ok (.ireturn, 1) := by decide +kernel
abbrev x_J0_length_8abf5 (E : mh_E) (d mc ms : Nat) (Post : Option Value → mh_H → Prop) : mh_X := (E, yJ0_length_8abf5, cJ0_length_8abf5, 1, (some .int), d, mc, ms, Post)
def q_J0_length_8abf5_0 (X : mh_X) : mh_PR := s_al 0 (s_gsV X (s_bln X (s_al 0 (s_cvS X yJ0_coder_7d493 0 (s_bin mh_shr (s_iret X))))))
theorem b_J0_length_8abf5_0 {E : mh_E} {d mc ms : Nat} {Post : Option Value → mh_H → Prop} : mh_S (x_J0_length_8abf5 E d mc ms Post) 0 (q_J0_length_8abf5_0 (x_J0_length_8abf5 E d mc ms Post)) := sn_aload_n dJ0_length_8abf5_0 rfl (sn_gsV w_1566 dJ0_length_8abf5_1 (sn_bln dJ0_length_8abf5_4 (sn_aload_n dJ0_length_8abf5_5 rfl (sn_cvS w_812 w_813 w_814 w_71 rfl nm_J0_coder_7d493 dJ0_length_8abf5_6 (sn_ishr dJ0_length_8abf5_9 (sn_iret rfl dJ0_length_8abf5_10))))))
theorem m_J0_length_8abf5 {E : mh_E} {d mc ms : Nat} {args : List Value} {h : mh_H} {Post : Option Value → mh_H → Prop} (lv : List (Option Value)) (hl : lv_args 0 args = mh_al 0 lv) (hs : (lg_sl args).length ≤ 1) (hG : q_J0_length_8abf5_0 (x_J0_length_8abf5 E d mc ms Post) lv [] h 0 0) : mh_M E d mc ms yJ0_length_8abf5 args h Post := mh_M.of w_811 (by decide) (by decide) hl hs (b_J0_length_8abf5_0 _ _ _ _ _ hG)
theorem dJ0_charAt_5068e_0 : decode cJ0_charAt_5068e 0 = .ok (.aload_n 0, 1) := by decide +kernel
theorem dJ0_charAt_5068e_1 : decode cJ0_charAt_5068e 1 = .ok (.invokevirtual 492, 3) := by decide +kernel
theorem dJ0_charAt_5068e_4 : decode cJ0_charAt_5068e 4 = .ok (.ifCond .eq 12, 3) := by decide +kernel
theorem dJ0_charAt_5068e_7 : decode cJ0_charAt_5068e 7 = .ok (.aload_n 0, 1) := by decide +kernel
theorem dJ0_charAt_5068e_8 : decode cJ0_charAt_5068e 8 = .ok (.getfield 9, 3) := by decide +kernel
theorem dJ0_charAt_5068e_11 : decode cJ0_charAt_5068e 11 = .ok (.iload_n 1, 1) := by decide +kernel
theorem dJ0_charAt_5068e_12 : decode cJ0_charAt_5068e 12 = .ok (.invokestatic 495, 3) := by decide +kernel
theorem dJ0_charAt_5068e_15 : decode cJ0_charAt_5068e 15 = .ok (.ireturn, 1) := by decide +kernel
theorem dJ0_charAt_5068e_16 : decode cJ0_charAt_5068e 16 = .ok (.aload_n 0, 1) := by decide +kernel
theorem dJ0_charAt_5068e_17 : decode cJ0_charAt_5068e 17 = .ok (.getfield 9, 3) := by decide +kernel
theorem dJ0_charAt_5068e_20 : decode cJ0_charAt_5068e 20 = .ok (.iload_n 1, 1) := by decide +kernel
theorem dJ0_charAt_5068e_21 : decode cJ0_charAt_5068e 21 = .ok (.invokestatic 498, 3) := by decide +kernel
theorem dJ0_charAt_5068e_24 : decode cJ0_charAt_5068e 24 = .ok (.ireturn, 1) := by decide +kernel
abbrev x_J0_charAt_5068e (E : mh_E) (d mc ms : Nat) (Post : Option Value → mh_H → Prop) : mh_X := (E, yJ0_charAt_5068e, cJ0_charAt_5068e, 2, (some .char), d, mc, ms, Post)
def q_J0_charAt_5068e_0 (X : mh_X) : mh_PR := s_al 0 (s_cvS X yJ0_isLatin1_aae02 0 (s_if1 (fun x => x = 0) (s_al 0 (s_gsV X (s_il 1 (s_cs X yJ2_charAt_3b067 2 (s_cret X))))) (s_al 0 (s_gsV X (s_il 1 (s_cs X yJ1_charAt_3b067 2 (s_cret X)))))))
theorem b_J0_charAt_5068e_0 {E : mh_E} {d mc ms : Nat} {Post : Option Value → mh_H → Prop} : mh_S (x_J0_charAt_5068e E d mc ms Post) 0 (q_J0_charAt_5068e_0 (x_J0_charAt_5068e E d mc ms Post)) := sn_aload_n dJ0_charAt_5068e_0 rfl (sn_cvS w_822 w_823 w_824 w_71 rfl nm_J0_isLatin1_aae02 dJ0_charAt_5068e_1 (sn_if_eq (tgt := 16) dJ0_charAt_5068e_4 (by decide) (sn_aload_n dJ0_charAt_5068e_16 rfl (sn_gsV w_1566 dJ0_charAt_5068e_17 (sn_iload_n dJ0_charAt_5068e_20 rfl (sn_cs w_837 w_838 w_74 nm_J2_charAt_3b067 dJ0_charAt_5068e_21 (sn_cret rfl dJ0_charAt_5068e_24))))) (sn_aload_n dJ0_charAt_5068e_7 rfl (sn_gsV w_1566 dJ0_charAt_5068e_8 (sn_iload_n dJ0_charAt_5068e_11 rfl (sn_cs w_826 w_827 w_72 nm_J1_charAt_3b067 dJ0_charAt_5068e_12 (sn_cret rfl dJ0_charAt_5068e_15)))))))
theorem m_J0_charAt_5068e {E : mh_E} {d mc ms : Nat} {args : List Value} {h : mh_H} {Post : Option Value → mh_H → Prop} (lv : List (Option Value)) (hl : lv_args 0 args = mh_al 0 lv) (hs : (lg_sl args).length ≤ 2) (hG : q_J0_charAt_5068e_0 (x_J0_charAt_5068e E d mc ms Post) lv [] h 0 0) : mh_M E d mc ms yJ0_charAt_5068e args h Post := mh_M.of w_821 (by decide) (by decide) hl hs (b_J0_charAt_5068e_0 _ _ _ _ _ hG)
theorem dJ0_indexOf_0f7a4_0 : decode cJ0_indexOf_0f7a4 0 = .ok (.aload_n 0, 1) := by decide +kernel
theorem dJ0_indexOf_0f7a4_1 : decode cJ0_indexOf_0f7a4 1 = .ok (.iload_n 1, 1) := by decide +kernel
theorem dJ0_indexOf_0f7a4_2 : decode cJ0_indexOf_0f7a4 2 = .ok (.iconst 0, 1) := by decide +kernel
theorem dJ0_indexOf_0f7a4_3 : decode cJ0_indexOf_0f7a4 3 = .ok (.invokevirtual 633, 3) := by decide +kernel
theorem dJ0_indexOf_0f7a4_6 : decode cJ0_indexOf_0f7a4 6 = .ok (.ireturn, 1) := by decide +kernel
abbrev x_J0_indexOf_0f7a4 (E : mh_E) (d mc ms : Nat) (Post : Option Value → mh_H → Prop) : mh_X := (E, yJ0_indexOf_0f7a4, cJ0_indexOf_0f7a4, 2, (some .int), d, mc, ms, Post)
def q_J0_indexOf_0f7a4_0 (X : mh_X) : mh_PR := s_al 0 (s_il 1 (s_push (.int (0)) (s_cvS X yJ0_indexOf_7cf53 2 (s_iret X))))
theorem b_J0_indexOf_0f7a4_0 {E : mh_E} {d mc ms : Nat} {Post : Option Value → mh_H → Prop} : mh_S (x_J0_indexOf_0f7a4 E d mc ms Post) 0 (q_J0_indexOf_0f7a4_0 (x_J0_indexOf_0f7a4 E d mc ms Post)) := sn_aload_n dJ0_indexOf_0f7a4_0 rfl (sn_iload_n dJ0_indexOf_0f7a4_1 rfl (sn_iconst dJ0_indexOf_0f7a4_2 (by decide) (sn_cvS w_890 w_891 w_892 w_71 rfl nm_J0_indexOf_7cf53 dJ0_indexOf_0f7a4_3 (sn_iret rfl dJ0_indexOf_0f7a4_6))))
theorem m_J0_indexOf_0f7a4 {E : mh_E} {d mc ms : Nat} {args : List Value} {h : mh_H} {Post : Option Value → mh_H → Prop} (lv : List (Option Value)) (hl : lv_args 0 args = mh_al 0 lv) (hs : (lg_sl args).length ≤ 2) (hG : q_J0_indexOf_0f7a4_0 (x_J0_indexOf_0f7a4 E d mc ms Post) lv [] h 0 0) : mh_M E d mc ms yJ0_indexOf_0f7a4 args h Post := mh_M.of w_889 (by decide) (by decide) hl hs (b_J0_indexOf_0f7a4_0 _ _ _ _ _ hG)
theorem dJ0_indexOf_7cf53_0 : decode cJ0_indexOf_7cf53 0 = .ok (.aload_n 0, 1) := by decide +kernel
theorem dJ0_indexOf_7cf53_1 : decode cJ0_indexOf_7cf53 1 = .ok (.invokevirtual 492, 3) := by decide +kernel
theorem dJ0_indexOf_7cf53_4 : decode cJ0_indexOf_7cf53 4 = .ok (.ifCond .eq 19, 3) := by decide +kernel
theorem dJ0_indexOf_7cf53_7 : decode cJ0_indexOf_7cf53 7 = .ok (.aload_n 0, 1) := by decide +kernel
theorem dJ0_indexOf_7cf53_8 : decode cJ0_indexOf_7cf53 8 = .ok (.getfield 9, 3) := by decide +kernel
theorem dJ0_indexOf_7cf53_11 : decode cJ0_indexOf_7cf53 11 = .ok (.iload_n 1, 1) := by decide +kernel
theorem dJ0_indexOf_7cf53_12 : decode cJ0_indexOf_7cf53 12 = .ok (.iload_n 2, 1) := by decide +kernel
theorem dJ0_indexOf_7cf53_13 : decode cJ0_indexOf_7cf53 13 = .ok (.aload_n 0, 1) := by decide +kernel
theorem dJ0_indexOf_7cf53_14 : decode cJ0_indexOf_7cf53 14 = .ok (.invokevirtual 505, 3) := by decide +kernel
theorem dJ0_indexOf_7cf53_17 : decode cJ0_indexOf_7cf53 17 = .ok (.invokestatic 637, 3) := by decide +kernel
theorem dJ0_indexOf_7cf53_20 : decode cJ0_indexOf_7cf53 20 = .ok (.goto 16, 3) := by decide +kernel
theorem dJ0_indexOf_7cf53_23 : decode cJ0_indexOf_7cf53 23 = .ok (.aload_n 0, 1) := by decide +kernel
theorem dJ0_indexOf_7cf53_24 : decode cJ0_indexOf_7cf53 24 = .ok (.getfield 9, 3) := by decide +kernel
theorem dJ0_indexOf_7cf53_27 : decode cJ0_indexOf_7cf53 27 = .ok (.iload_n 1, 1) := by decide +kernel
theorem dJ0_indexOf_7cf53_28 : decode cJ0_indexOf_7cf53 28 = .ok (.iload_n 2, 1) := by decide +kernel
theorem dJ0_indexOf_7cf53_29 : decode cJ0_indexOf_7cf53 29 = .ok (.aload_n 0, 1) := by decide +kernel
theorem dJ0_indexOf_7cf53_30 : decode cJ0_indexOf_7cf53 30 = .ok (.invokevirtual 505, 3) := by decide +kernel
theorem dJ0_indexOf_7cf53_33 : decode cJ0_indexOf_7cf53 33 = .ok (.invokestatic 640, 3) := by decide +kernel
theorem dJ0_indexOf_7cf53_36 : decode cJ0_indexOf_7cf53 36 = .ok (.ireturn, 1) := by decide +kernel
abbrev x_J0_indexOf_7cf53 (E : mh_E) (d mc ms : Nat) (Post : Option Value → mh_H → Prop) : mh_X := (E, yJ0_indexOf_7cf53, cJ0_indexOf_7cf53, 3, (some .int), d, mc, ms, Post)
def q_J0_indexOf_7cf53_36 (X : mh_X) : mh_PR := s_iret X
theorem b_J0_indexOf_7cf53_36 {E : mh_E} {d mc ms : Nat} {Post : Option Value → mh_H → Prop} : mh_S (x_J0_indexOf_7cf53 E d mc ms Post) 36 (q_J0_indexOf_7cf53_36 (x_J0_indexOf_7cf53 E d mc ms Post)) := sn_iret rfl dJ0_indexOf_7cf53_36
def q_J0_indexOf_7cf53_0 (X : mh_X) : mh_PR := s_al 0 (s_cvS X yJ0_isLatin1_aae02 0 (s_if1 (fun x => x = 0) (s_al 0 (s_gsV X (s_il 1 (s_il 2 (s_al 0 (s_cvS X yJ0_length_8abf5 0 (s_cs X yJ2_indexOf_4cfef 4 (q_J0_indexOf_7cf53_36 X)))))))) (s_al 0 (s_gsV X (s_il 1 (s_il 2 (s_al 0 (s_cvS X yJ0_length_8abf5 0 (s_cs X yJ1_indexOf_4cfef 4 (q_J0_indexOf_7cf53_36 X))))))))))
theorem b_J0_indexOf_7cf53_0 {E : mh_E} {d mc ms : Nat} {Post : Option Value → mh_H → Prop} : mh_S (x_J0_indexOf_7cf53 E d mc ms Post) 0 (q_J0_indexOf_7cf53_0 (x_J0_indexOf_7cf53 E d mc ms Post)) := sn_aload_n dJ0_indexOf_7cf53_0 rfl (sn_cvS w_822 w_823 w_824 w_71 rfl nm_J0_isLatin1_aae02 dJ0_indexOf_7cf53_1 (sn_if_eq (tgt := 23) dJ0_indexOf_7cf53_4 (by decide) (sn_aload_n dJ0_indexOf_7cf53_23 rfl (sn_gsV w_1566 dJ0_indexOf_7cf53_24 (sn_iload_n dJ0_indexOf_7cf53_27 rfl (sn_iload_n dJ0_indexOf_7cf53_28 rfl (sn_aload_n dJ0_indexOf_7cf53_29 rfl (sn_cvS w_894 w_809 w_810 w_71 rfl nm_J0_length_8abf5 dJ0_indexOf_7cf53_30 (sn_cs w_906 w_907 w_74 nm_J2_indexOf_4cfef dJ0_indexOf_7cf53_33 b_J0_indexOf_7cf53_36))))))) (sn_aload_n dJ0_indexOf_7cf53_7 rfl (sn_gsV w_1566 dJ0_indexOf_7cf53_8 (sn_iload_n dJ0_indexOf_7cf53_11 rfl (sn_iload_n dJ0_indexOf_7cf53_12 rfl (sn_aload_n dJ0_indexOf_7cf53_13 rfl (sn_cvS w_894 w_809 w_810 w_71 rfl nm_J0_length_8abf5 dJ0_indexOf_7cf53_14 (sn_cs w_895 w_896 w_72 nm_J1_indexOf_4cfef dJ0_indexOf_7cf53_17 (sn_goto (tgt := 36) dJ0_indexOf_7cf53_20 (by decide) (b_J0_indexOf_7cf53_36)))))))))))
theorem m_J0_indexOf_7cf53 {E : mh_E} {d mc ms : Nat} {args : List Value} {h : mh_H} {Post : Option Value → mh_H → Prop} (lv : List (Option Value)) (hl : lv_args 0 args = mh_al 0 lv) (hs : (lg_sl args).length ≤ 3) (hG : q_J0_indexOf_7cf53_0 (x_J0_indexOf_7cf53 E d mc ms Post) lv [] h 0 0) : mh_M E d mc ms yJ0_indexOf_7cf53 args h Post := mh_M.of w_893 (by decide) (by decide) hl hs (b_J0_indexOf_7cf53_0 _ _ _ _ _ hG)
theorem dJ0_coder_7d493_0 : decode cJ0_coder_7d493 0 = .ok (.getstatic 38, 3) := by decide +kernel
theorem dJ0_coder_7d493_3 : decode cJ0_coder_7d493 3 = .ok (.ifCond .eq 10, 3) := by decide +kernel
theorem dJ0_coder_7d493_6 : decode cJ0_coder_7d493 6 = .ok (.aload_n 0, 1) := by decide +kernel
theorem dJ0_coder_7d493_7 : decode cJ0_coder_7d493 7 = .ok (.getfield 15, 3) := by decide +kernel
theorem dJ0_coder_7d493_10 : decode cJ0_coder_7d493 10 = .ok (.goto 4, 3) := by decide +kernel
theorem dJ0_coder_7d493_13 : decode cJ0_coder_7d493 13 = .ok (.iconst 1, 1) := by decide +kernel
theorem dJ0_coder_7d493_14 : decode cJ0_coder_7d493 14 = .ok (.ireturn, 1) := by decide +kernel
abbrev x_J0_coder_7d493 (E : mh_E) (d mc ms : Nat) (Post : Option Value → mh_H → Prop) : mh_X := (E, yJ0_coder_7d493, cJ0_coder_7d493, 1, (some .byte), d, mc, ms, Post)
def q_J0_coder_7d493_14 (X : mh_X) : mh_PR := s_bret X
theorem b_J0_coder_7d493_14 {E : mh_E} {d mc ms : Nat} {Post : Option Value → mh_H → Prop} : mh_S (x_J0_coder_7d493 E d mc ms Post) 14 (q_J0_coder_7d493_14 (x_J0_coder_7d493 E d mc ms Post)) := sn_bret rfl dJ0_coder_7d493_14
def q_J0_coder_7d493_0 (X : mh_X) : mh_PR := s_gcs (s_if1 (fun x => x = 0) (s_push (.int (1)) (q_J0_coder_7d493_14 X)) (s_al 0 (s_gsC X (q_J0_coder_7d493_14 X))))
theorem b_J0_coder_7d493_0 {E : mh_E} {d mc ms : Nat} {Post : Option Value → mh_H → Prop} : mh_S (x_J0_coder_7d493 E d mc ms Post) 0 (q_J0_coder_7d493_0 (x_J0_coder_7d493 E d mc ms Post)) := sn_gcs w_816 dJ0_coder_7d493_0 (sn_if_eq (tgt := 13) dJ0_coder_7d493_3 (by decide) (sn_iconst dJ0_coder_7d493_13 (by decide) b_J0_coder_7d493_14) (sn_aload_n dJ0_coder_7d493_6 rfl (sn_gsC w_1567 dJ0_coder_7d493_7 (sn_goto (tgt := 14) dJ0_coder_7d493_10 (by decide) (b_J0_coder_7d493_14)))))
theorem m_J0_coder_7d493 {E : mh_E} {d mc ms : Nat} {args : List Value} {h : mh_H} {Post : Option Value → mh_H → Prop} (lv : List (Option Value)) (hl : lv_args 0 args = mh_al 0 lv) (hs : (lg_sl args).length ≤ 1) (hG : q_J0_coder_7d493_0 (x_J0_coder_7d493 E d mc ms Post) lv [] h 0 0) : mh_M E d mc ms yJ0_coder_7d493 args h Post := mh_M.of w_815 (by decide) (by decide) hl hs (b_J0_coder_7d493_0 _ _ _ _ _ hG)
theorem dJ0_isLatin1_aae02_0 : decode cJ0_isLatin1_aae02 0 = .ok (.getstatic 38, 3) := by decide +kernel
theorem dJ0_isLatin1_aae02_3 : decode cJ0_isLatin1_aae02 3 = .ok (.ifCond .eq 14, 3) := by decide +kernel
theorem dJ0_isLatin1_aae02_6 : decode cJ0_isLatin1_aae02 6 = .ok (.aload_n 0, 1) := by decide +kernel
theorem dJ0_isLatin1_aae02_7 : decode cJ0_isLatin1_aae02 7 = .ok (.getfield 15, 3) := by decide +kernel
theorem dJ0_isLatin1_aae02_10 : decode cJ0_isLatin1_aae02 10 = .ok (.ifCond .ne 7, 3) := by decide +kernel
theorem dJ0_isLatin1_aae02_13 : decode cJ0_isLatin1_aae02 13 = .ok (.iconst 1, 1) := by decide +kernel
theorem dJ0_isLatin1_aae02_14 : decode cJ0_isLatin1_aae02 14 = .ok (.goto 4, 3) := by decide +kernel
theorem dJ0_isLatin1_aae02_17 : decode cJ0_isLatin1_aae02 17 = .ok (.iconst 0, 1) := by decide +kernel
theorem dJ0_isLatin1_aae02_18 : decode cJ0_isLatin1_aae02 18 = .ok (.ireturn, 1) := by decide +kernel
abbrev x_J0_isLatin1_aae02 (E : mh_E) (d mc ms : Nat) (Post : Option Value → mh_H → Prop) : mh_X := (E, yJ0_isLatin1_aae02, cJ0_isLatin1_aae02, 1, (some .boolean), d, mc, ms, Post)
def q_J0_isLatin1_aae02_18 (X : mh_X) : mh_PR := s_zret X
theorem b_J0_isLatin1_aae02_18 {E : mh_E} {d mc ms : Nat} {Post : Option Value → mh_H → Prop} : mh_S (x_J0_isLatin1_aae02 E d mc ms Post) 18 (q_J0_isLatin1_aae02_18 (x_J0_isLatin1_aae02 E d mc ms Post)) := sn_zret rfl dJ0_isLatin1_aae02_18
def q_J0_isLatin1_aae02_17 (X : mh_X) : mh_PR := s_push (.int (0)) (q_J0_isLatin1_aae02_18 X)
theorem b_J0_isLatin1_aae02_17 {E : mh_E} {d mc ms : Nat} {Post : Option Value → mh_H → Prop} : mh_S (x_J0_isLatin1_aae02 E d mc ms Post) 17 (q_J0_isLatin1_aae02_17 (x_J0_isLatin1_aae02 E d mc ms Post)) := sn_iconst dJ0_isLatin1_aae02_17 (by decide) b_J0_isLatin1_aae02_18
def q_J0_isLatin1_aae02_0 (X : mh_X) : mh_PR := s_gcs (s_if1 (fun x => x = 0) (q_J0_isLatin1_aae02_17 X) (s_al 0 (s_gsC X (s_if1 (fun x => ¬ x = 0) (q_J0_isLatin1_aae02_17 X) (s_push (.int (1)) (q_J0_isLatin1_aae02_18 X))))))
theorem b_J0_isLatin1_aae02_0 {E : mh_E} {d mc ms : Nat} {Post : Option Value → mh_H → Prop} : mh_S (x_J0_isLatin1_aae02 E d mc ms Post) 0 (q_J0_isLatin1_aae02_0 (x_J0_isLatin1_aae02 E d mc ms Post)) := sn_gcs w_816 dJ0_isLatin1_aae02_0 (sn_if_eq (tgt := 17) dJ0_isLatin1_aae02_3 (by decide) (b_J0_isLatin1_aae02_17) (sn_aload_n dJ0_isLatin1_aae02_6 rfl (sn_gsC w_1567 dJ0_isLatin1_aae02_7 (sn_if_ne (tgt := 17) dJ0_isLatin1_aae02_10 (by decide) (b_J0_isLatin1_aae02_17) (sn_iconst dJ0_isLatin1_aae02_13 (by decide) (sn_goto (tgt := 18) dJ0_isLatin1_aae02_14 (by decide) (b_J0_isLatin1_aae02_18)))))))
theorem m_J0_isLatin1_aae02 {E : mh_E} {d mc ms : Nat} {args : List Value} {h : mh_H} {Post : Option Value → mh_H → Prop} (lv : List (Option Value)) (hl : lv_args 0 args = mh_al 0 lv) (hs : (lg_sl args).length ≤ 1) (hG : q_J0_isLatin1_aae02_0 (x_J0_isLatin1_aae02 E d mc ms Post) lv [] h 0 0) : mh_M E d mc ms yJ0_isLatin1_aae02 args h Post := mh_M.of w_825 (by decide) (by decide) hl hs (b_J0_isLatin1_aae02_0 _ _ _ _ _ hG)
theorem dJ0_checkIndex_df160_0 : decode cJ0_checkIndex_df160 0 = .ok (.iload_n 0, 1) := by decide +kernel
theorem dJ0_checkIndex_df160_1 : decode cJ0_checkIndex_df160 1 = .ok (.iload_n 1, 1) := by decide +kernel
theorem dJ0_checkIndex_df160_2 : decode cJ0_checkIndex_df160 2 = .ok (.getstatic 1053, 3) := by decide +kernel
theorem dJ0_checkIndex_df160_5 : decode cJ0_checkIndex_df160 5 = .ok (.invokestatic 1059, 3) := by decide +kernel
theorem dJ0_checkIndex_df160_8 : decode cJ0_checkIndex_df160 8 = .ok (.pop, 1) := by decide +kernel
theorem dJ0_checkIndex_df160_9 : decode cJ0_checkIndex_df160 9 = .ok (.return_, 1) := by decide +kernel
abbrev x_J0_checkIndex_df160 (E : mh_E) (d mc ms : Nat) (Post : Option Value → mh_H → Prop) : mh_X := (E, yJ0_checkIndex_df160, cJ0_checkIndex_df160, 2, none, d, mc, ms, Post)
def q_J0_checkIndex_df160_0 (X : mh_X) : mh_PR := s_il 0 (s_il 1 (s_gfm X (s_cs X yJ3_checkIndex_8e157 3 (s_pop (s_vret X)))))
theorem b_J0_checkIndex_df160_0 {E : mh_E} {d mc ms : Nat} {Post : Option Value → mh_H → Prop} : mh_S (x_J0_checkIndex_df160 E d mc ms Post) 0 (q_J0_checkIndex_df160_0 (x_J0_checkIndex_df160 E d mc ms Post)) := sn_iload_n dJ0_checkIndex_df160_0 rfl (sn_iload_n dJ0_checkIndex_df160_1 rfl (sn_gfm w_832 dJ0_checkIndex_df160_2 (sn_cs w_834 w_835 w_73 nm_J3_checkIndex_8e157 dJ0_checkIndex_df160_5 (sn_pop dJ0_checkIndex_df160_8 (sn_vret rfl dJ0_checkIndex_df160_9)))))
theorem m_J0_checkIndex_df160 {E : mh_E} {d mc ms : Nat} {args : List Value} {h : mh_H} {Post : Option Value → mh_H → Prop} (lv : List (Option Value)) (hl : lv_args 0 args = mh_al 0 lv) (hs : (lg_sl args).length ≤ 2) (hG : q_J0_checkIndex_df160_0 (x_J0_checkIndex_df160 E d mc ms Post) lv [] h 0 0) : mh_M E d mc ms yJ0_checkIndex_df160 args h Post := mh_M.of w_831 (by decide) (by decide) hl hs (b_J0_checkIndex_df160_0 _ _ _ _ _ hG)
theorem dJ1_charAt_3b067_0 : decode cJ1_charAt_3b067 0 = .ok (.iload_n 1, 1) := by decide +kernel
theorem dJ1_charAt_3b067_1 : decode cJ1_charAt_3b067 1 = .ok (.aload_n 0, 1) := by decide +kernel
theorem dJ1_charAt_3b067_2 : decode cJ1_charAt_3b067 2 = .ok (.arraylength, 1) := by decide +kernel
theorem dJ1_charAt_3b067_3 : decode cJ1_charAt_3b067 3 = .ok (.invokestatic 9, 3) := by decide +kernel
theorem dJ1_charAt_3b067_6 : decode cJ1_charAt_3b067 6 = .ok (.aload_n 0, 1) := by decide +kernel
theorem dJ1_charAt_3b067_7 : decode cJ1_charAt_3b067 7 = .ok (.iload_n 1, 1) := by decide +kernel
theorem dJ1_charAt_3b067_8 : decode cJ1_charAt_3b067 8 = .ok (.baload, 1) := by decide +kernel
theorem dJ1_charAt_3b067_9 : decode cJ1_charAt_3b067 9 = .ok (.sipush 255, 3) := by decide +kernel
theorem dJ1_charAt_3b067_12 : decode cJ1_charAt_3b067 12 = .ok (.iand, 1) := by decide +kernel
theorem dJ1_charAt_3b067_13 : decode cJ1_charAt_3b067 13 = .ok (.i2c, 1) := by decide +kernel
theorem dJ1_charAt_3b067_14 : decode cJ1_charAt_3b067 14 = .ok (.ireturn, 1) := by decide +kernel
abbrev x_J1_charAt_3b067 (E : mh_E) (d mc ms : Nat) (Post : Option Value → mh_H → Prop) : mh_X := (E, yJ1_charAt_3b067, cJ1_charAt_3b067, 2, (some .char), d, mc, ms, Post)
def q_J1_charAt_3b067_0 (X : mh_X) : mh_PR := s_il 1 (s_al 0 (s_bln X (s_cs X yJ0_checkIndex_df160 2 (s_al 0 (s_il 1 (s_bld X (s_push (.int (255)) (s_bin (fun x y => x &&& y) (s_un (fun x => (x.toUInt32 % 65536).toInt32) (s_cret X))))))))))
theorem b_J1_charAt_3b067_0 {E : mh_E} {d mc ms : Nat} {Post : Option Value → mh_H → Prop} : mh_S (x_J1_charAt_3b067 E d mc ms Post) 0 (q_J1_charAt_3b067_0 (x_J1_charAt_3b067 E d mc ms Post)) := sn_iload_n dJ1_charAt_3b067_0 rfl (sn_aload_n dJ1_charAt_3b067_1 rfl (sn_bln dJ1_charAt_3b067_2 (sn_cs w_829 w_830 w_71 nm_J0_checkIndex_df160 dJ1_charAt_3b067_3 (sn_aload_n dJ1_charAt_3b067_6 rfl (sn_iload_n dJ1_charAt_3b067_7 rfl (sn_bld dJ1_charAt_3b067_8 (sn_sipush dJ1_charAt_3b067_9 (by decide) (sn_iand dJ1_charAt_3b067_12 (sn_i2c dJ1_charAt_3b067_13 (sn_cret rfl dJ1_charAt_3b067_14))))))))))
theorem m_J1_charAt_3b067 {E : mh_E} {d mc ms : Nat} {args : List Value} {h : mh_H} {Post : Option Value → mh_H → Prop} (lv : List (Option Value)) (hl : lv_args 0 args = mh_al 0 lv) (hs : (lg_sl args).length ≤ 2) (hG : q_J1_charAt_3b067_0 (x_J1_charAt_3b067 E d mc ms Post) lv [] h 0 0) : mh_M E d mc ms yJ1_charAt_3b067 args h Post := mh_M.of w_828 (by decide) (by decide) hl hs (b_J1_charAt_3b067_0 _ _ _ _ _ hG)
theorem dJ1_canEncode_9a6ad_0 : decode cJ1_canEncode_9a6ad 0 = .ok (.iload_n 0, 1) := by decide +kernel
theorem dJ1_canEncode_9a6ad_1 : decode cJ1_canEncode_9a6ad 1 = .ok (.ifCond .lt 14, 3) := by decide +kernel
theorem dJ1_canEncode_9a6ad_4 : decode cJ1_canEncode_9a6ad 4 = .ok (.iload_n 0, 1) := by decide +kernel
theorem dJ1_canEncode_9a6ad_5 : decode cJ1_canEncode_9a6ad 5 = .ok (.sipush 255, 3) := by decide +kernel
theorem dJ1_canEncode_9a6ad_8 : decode cJ1_canEncode_9a6ad 8 = .ok (.if_icmp .gt 7, 3) := by decide +kernel
theorem dJ1_canEncode_9a6ad_11 : decode cJ1_canEncode_9a6ad 11 = .ok (.iconst 1, 1) := by decide +kernel
theorem dJ1_canEncode_9a6ad_12 : decode cJ1_canEncode_9a6ad 12 = .ok (.goto 4, 3) := by decide +kernel
theorem dJ1_canEncode_9a6ad_15 : decode cJ1_canEncode_9a6ad 15 = .ok (.iconst 0, 1) := by decide +kernel
theorem dJ1_canEncode_9a6ad_16 : decode cJ1_canEncode_9a6ad 16 = .ok (.ireturn, 1) := by decide +kernel
abbrev x_J1_canEncode_9a6ad (E : mh_E) (d mc ms : Nat) (Post : Option Value → mh_H → Prop) : mh_X := (E, yJ1_canEncode_9a6ad, cJ1_canEncode_9a6ad, 1, (some .boolean), d, mc, ms, Post)
def q_J1_canEncode_9a6ad_16 (X : mh_X) : mh_PR := s_zret X
theorem b_J1_canEncode_9a6ad_16 {E : mh_E} {d mc ms : Nat} {Post : Option Value → mh_H → Prop} : mh_S (x_J1_canEncode_9a6ad E d mc ms Post) 16 (q_J1_canEncode_9a6ad_16 (x_J1_canEncode_9a6ad E d mc ms Post)) := sn_zret rfl dJ1_canEncode_9a6ad_16
def q_J1_canEncode_9a6ad_15 (X : mh_X) : mh_PR := s_push (.int (0)) (q_J1_canEncode_9a6ad_16 X)
theorem b_J1_canEncode_9a6ad_15 {E : mh_E} {d mc ms : Nat} {Post : Option Value → mh_H → Prop} : mh_S (x_J1_canEncode_9a6ad E d mc ms Post) 15 (q_J1_canEncode_9a6ad_15 (x_J1_canEncode_9a6ad E d mc ms Post)) := sn_iconst dJ1_canEncode_9a6ad_15 (by decide) b_J1_canEncode_9a6ad_16
def q_J1_canEncode_9a6ad_0 (X : mh_X) : mh_PR := s_il 0 (s_if1 (fun x => x < 0) (q_J1_canEncode_9a6ad_15 X) (s_il 0 (s_push (.int (255)) (s_if2 (fun x y => y < x) (q_J1_canEncode_9a6ad_15 X) (s_push (.int (1)) (q_J1_canEncode_9a6ad_16 X))))))
theorem b_J1_canEncode_9a6ad_0 {E : mh_E} {d mc ms : Nat} {Post : Option Value → mh_H → Prop} : mh_S (x_J1_canEncode_9a6ad E d mc ms Post) 0 (q_J1_canEncode_9a6ad_0 (x_J1_canEncode_9a6ad E d mc ms Post)) := sn_iload_n dJ1_canEncode_9a6ad_0 rfl (sn_if_lt (tgt := 15) dJ1_canEncode_9a6ad_1 (by decide) (b_J1_canEncode_9a6ad_15) (sn_iload_n dJ1_canEncode_9a6ad_4 rfl (sn_sipush dJ1_canEncode_9a6ad_5 (by decide) (sn_icmp_gt (tgt := 15) dJ1_canEncode_9a6ad_8 (by decide) (b_J1_canEncode_9a6ad_15) (sn_iconst dJ1_canEncode_9a6ad_11 (by decide) (sn_goto (tgt := 16) dJ1_canEncode_9a6ad_12 (by decide) (b_J1_canEncode_9a6ad_16)))))))
theorem m_J1_canEncode_9a6ad {E : mh_E} {d mc ms : Nat} {args : List Value} {h : mh_H} {Post : Option Value → mh_H → Prop} (lv : List (Option Value)) (hl : lv_args 0 args = mh_al 0 lv) (hs : (lg_sl args).length ≤ 1) (hG : q_J1_canEncode_9a6ad_0 (x_J1_canEncode_9a6ad E d mc ms Post) lv [] h 0 0) : mh_M E d mc ms yJ1_canEncode_9a6ad args h Post := mh_M.of w_900 (by decide) (by decide) hl hs (b_J1_canEncode_9a6ad_0 _ _ _ _ _ hG)
theorem dJ1_indexOf_4cfef_0 : decode cJ1_indexOf_4cfef 0 = .ok (.iload_n 1, 1) := by decide +kernel
theorem dJ1_indexOf_4cfef_1 : decode cJ1_indexOf_4cfef 1 = .ok (.invokestatic 88, 3) := by decide +kernel
theorem dJ1_indexOf_4cfef_4 : decode cJ1_indexOf_4cfef 4 = .ok (.ifCond .ne 5, 3) := by decide +kernel
theorem dJ1_indexOf_4cfef_7 : decode cJ1_indexOf_4cfef 7 = .ok (.iconst (-1), 1) := by decide +kernel
theorem dJ1_indexOf_4cfef_8 : decode cJ1_indexOf_4cfef 8 = .ok (.ireturn, 1) := by decide +kernel
theorem dJ1_indexOf_4cfef_9 : decode cJ1_indexOf_4cfef 9 = .ok (.iload_n 2, 1) := by decide +kernel
theorem dJ1_indexOf_4cfef_10 : decode cJ1_indexOf_4cfef 10 = .ok (.iconst 0, 1) := by decide +kernel
theorem dJ1_indexOf_4cfef_11 : decode cJ1_indexOf_4cfef 11 = .ok (.invokestatic 92, 3) := by decide +kernel
theorem dJ1_indexOf_4cfef_14 : decode cJ1_indexOf_4cfef 14 = .ok (.istore_n 2, 1) := by decide +kernel
theorem dJ1_indexOf_4cfef_15 : decode cJ1_indexOf_4cfef 15 = .ok (.iload_n 3, 1) := by decide +kernel
theorem dJ1_indexOf_4cfef_16 : decode cJ1_indexOf_4cfef 16 = .ok (.aload_n 0, 1) := by decide +kernel
theorem dJ1_indexOf_4cfef_17 : decode cJ1_indexOf_4cfef 17 = .ok (.arraylength, 1) := by decide +kernel
theorem dJ1_indexOf_4cfef_18 : decode cJ1_indexOf_4cfef 18 = .ok (.invokestatic 38, 3) := by decide +kernel
theorem dJ1_indexOf_4cfef_21 : decode cJ1_indexOf_4cfef 21 = .ok (.istore_n 3, 1) := by decide +kernel
theorem dJ1_indexOf_4cfef_22 : decode cJ1_indexOf_4cfef 22 = .ok (.iload_n 2, 1) := by decide +kernel
theorem dJ1_indexOf_4cfef_23 : decode cJ1_indexOf_4cfef 23 = .ok (.iload_n 3, 1) := by decide +kernel
theorem dJ1_indexOf_4cfef_24 : decode cJ1_indexOf_4cfef 24 = .ok (.if_icmp .lt 5, 3) := by decide +kernel
theorem dJ1_indexOf_4cfef_27 : decode cJ1_indexOf_4cfef 27 = .ok (.iconst (-1), 1) := by decide +kernel
theorem dJ1_indexOf_4cfef_28 : decode cJ1_indexOf_4cfef 28 = .ok (.ireturn, 1) := by decide +kernel
theorem dJ1_indexOf_4cfef_29 : decode cJ1_indexOf_4cfef 29 = .ok (.aload_n 0, 1) := by decide +kernel
theorem dJ1_indexOf_4cfef_30 : decode cJ1_indexOf_4cfef 30 = .ok (.iload_n 1, 1) := by decide +kernel
theorem dJ1_indexOf_4cfef_31 : decode cJ1_indexOf_4cfef 31 = .ok (.iload_n 2, 1) := by decide +kernel
theorem dJ1_indexOf_4cfef_32 : decode cJ1_indexOf_4cfef 32 = .ok (.iload_n 3, 1) := by decide +kernel
theorem dJ1_indexOf_4cfef_33 : decode cJ1_indexOf_4cfef 33 = .ok (.invokestatic 95, 3) := by decide +kernel
theorem dJ1_indexOf_4cfef_36 : decode cJ1_indexOf_4cfef 36 = .ok (.ireturn, 1) := by decide +kernel
abbrev x_J1_indexOf_4cfef (E : mh_E) (d mc ms : Nat) (Post : Option Value → mh_H → Prop) : mh_X := (E, yJ1_indexOf_4cfef, cJ1_indexOf_4cfef, 4, (some .int), d, mc, ms, Post)
def q_J1_indexOf_4cfef_0 (X : mh_X) : mh_PR := s_il 1 (s_cs X yJ1_canEncode_9a6ad 1 (s_if1 (fun x => ¬ x = 0) (s_il 2 (s_push (.int (0)) (s_mm X (fun x y => if x < y then y else x) (s_is 2 (s_il 3 (s_al 0 (s_bln X (s_mm X (fun x y => if y < x then y else x) (s_is 3 (s_il 2 (s_il 3 (s_if2 (fun x y => x < y) (s_al 0 (s_il 1 (s_il 2 (s_il 3 (s_cs X yJ1_indexOfChar_4cfef 4 (s_iret X)))))) (s_push (.int (-1)) (s_iret X)))))))))))))) (s_push (.int (-1)) (s_iret X))))
theorem b_J1_indexOf_4cfef_0 {E : mh_E} {d mc ms : Nat} {Post : Option Value → mh_H → Prop} : mh_S (x_J1_indexOf_4cfef E d mc ms Post) 0 (q_J1_indexOf_4cfef_0 (x_J1_indexOf_4cfef E d mc ms Post)) := sn_iload_n dJ1_indexOf_4cfef_0 rfl (sn_cs w_898 w_899 w_72 nm_J1_canEncode_9a6ad dJ1_indexOf_4cfef_1 (sn_if_ne (tgt := 9) dJ1_indexOf_4cfef_4 (by decide) (sn_iload_n dJ1_indexOf_4cfef_9 rfl (sn_iconst dJ1_indexOf_4cfef_10 (by decide) (sn_mmax w_901 w_425 w_67 w_math_max dJ1_indexOf_4cfef_11 (sn_istore_n dJ1_indexOf_4cfef_14 rfl (Nat.le_of_ble_eq_true rfl) (sn_iload_n dJ1_indexOf_4cfef_15 rfl (sn_aload_n dJ1_indexOf_4cfef_16 rfl (sn_bln dJ1_indexOf_4cfef_17 (sn_mmin w_902 w_456 w_67 w_math_min dJ1_indexOf_4cfef_18 (sn_istore_n dJ1_indexOf_4cfef_21 rfl (Nat.le_of_ble_eq_true rfl) (sn_iload_n dJ1_indexOf_4cfef_22 rfl (sn_iload_n dJ1_indexOf_4cfef_23 rfl (sn_icmp_lt (tgt := 29) dJ1_indexOf_4cfef_24 (by decide) (sn_aload_n dJ1_indexOf_4cfef_29 rfl (sn_iload_n dJ1_indexOf_4cfef_30 rfl (sn_iload_n dJ1_indexOf_4cfef_31 rfl (sn_iload_n dJ1_indexOf_4cfef_32 rfl (sn_cs w_903 w_904 w_72 nm_J1_indexOfChar_4cfef dJ1_indexOf_4cfef_33 (sn_iret rfl dJ1_indexOf_4cfef_36)))))) (sn_iconst dJ1_indexOf_4cfef_27 (by decide) (sn_iret rfl dJ1_indexOf_4cfef_28)))))))))))))) (sn_iconst dJ1_indexOf_4cfef_7 (by decide) (sn_iret rfl dJ1_indexOf_4cfef_8))))
theorem m_J1_indexOf_4cfef {E : mh_E} {d mc ms : Nat} {args : List Value} {h : mh_H} {Post : Option Value → mh_H → Prop} (lv : List (Option Value)) (hl : lv_args 0 args = mh_al 0 lv) (hs : (lg_sl args).length ≤ 4) (hG : q_J1_indexOf_4cfef_0 (x_J1_indexOf_4cfef E d mc ms Post) lv [] h 0 0) : mh_M E d mc ms yJ1_indexOf_4cfef args h Post := mh_M.of w_897 (by decide) (by decide) hl hs (b_J1_indexOf_4cfef_0 _ _ _ _ _ hG)
theorem dJ1_indexOfChar_4cfef_0 : decode cJ1_indexOfChar_4cfef 0 = .ok (.iload_n 1, 1) := by decide +kernel
theorem dJ1_indexOfChar_4cfef_1 : decode cJ1_indexOfChar_4cfef 1 = .ok (.i2b, 1) := by decide +kernel
theorem dJ1_indexOfChar_4cfef_2 : decode cJ1_indexOfChar_4cfef 2 = .ok (.istore 4, 2) := by decide +kernel
theorem dJ1_indexOfChar_4cfef_4 : decode cJ1_indexOfChar_4cfef 4 = .ok (.iload_n 2, 1) := by decide +kernel
theorem dJ1_indexOfChar_4cfef_5 : decode cJ1_indexOfChar_4cfef 5 = .ok (.istore 5, 2) := by decide +kernel
theorem dJ1_indexOfChar_4cfef_7 : decode cJ1_indexOfChar_4cfef 7 = .ok (.iload 5, 2) := by decide +kernel
theorem dJ1_indexOfChar_4cfef_9 : decode cJ1_indexOfChar_4cfef 9 = .ok (.iload_n 3, 1) := by decide +kernel
theorem dJ1_indexOfChar_4cfef_10 : decode cJ1_indexOfChar_4cfef 10 = .ok (.if_icmp .ge 21, 3) := by decide +kernel
theorem dJ1_indexOfChar_4cfef_13 : decode cJ1_indexOfChar_4cfef 13 = .ok (.aload_n 0, 1) := by decide +kernel
theorem dJ1_indexOfChar_4cfef_14 : decode cJ1_indexOfChar_4cfef 14 = .ok (.iload 5, 2) := by decide +kernel
theorem dJ1_indexOfChar_4cfef_16 : decode cJ1_indexOfChar_4cfef 16 = .ok (.baload, 1) := by decide +kernel
theorem dJ1_indexOfChar_4cfef_17 : decode cJ1_indexOfChar_4cfef 17 = .ok (.iload 4, 2) := by decide +kernel
theorem dJ1_indexOfChar_4cfef_19 : decode cJ1_indexOfChar_4cfef 19 = .ok (.if_icmp .ne 6, 3) := by decide +kernel
theorem dJ1_indexOfChar_4cfef_22 : decode cJ1_indexOfChar_4cfef 22 = .ok (.iload 5, 2) := by decide +kernel
theorem dJ1_indexOfChar_4cfef_24 : decode cJ1_indexOfChar_4cfef 24 = .ok (.ireturn, 1) := by decide +kernel
theorem dJ1_indexOfChar_4cfef_25 : decode cJ1_indexOfChar_4cfef 25 = .ok (.iinc 5 1, 3) := by decide +kernel
theorem dJ1_indexOfChar_4cfef_28 : decode cJ1_indexOfChar_4cfef 28 = .ok (.goto (-21), 3) := by decide +kernel
theorem dJ1_indexOfChar_4cfef_31 : decode cJ1_indexOfChar_4cfef 31 = .ok (.iconst (-1), 1) := by decide +kernel
theorem dJ1_indexOfChar_4cfef_32 : decode cJ1_indexOfChar_4cfef 32 = .ok (.ireturn, 1) := by decide +kernel
abbrev x_J1_indexOfChar_4cfef (E : mh_E) (d mc ms : Nat) (Post : Option Value → mh_H → Prop) : mh_X := (E, yJ1_indexOfChar_4cfef, cJ1_indexOfChar_4cfef, 6, (some .int), d, mc, ms, Post)
def q_J1_indexOfChar_4cfef_7 (X : mh_X) : mh_PR := s_il 5 (s_il 3 (s_if2 (fun x y => y ≤ x) (s_push (.int (-1)) (s_iret X)) (s_al 0 (s_il 5 (s_bld X (s_il 4 (s_if2 (fun x y => ¬ x = y) (s_inc 5 (1) (mh_G X 7)) (s_il 5 (s_iret X)))))))))
theorem b_J1_indexOfChar_4cfef_7 {E : mh_E} {d mc ms : Nat} {Post : Option Value → mh_H → Prop} : mh_S (x_J1_indexOfChar_4cfef E d mc ms Post) 7 (q_J1_indexOfChar_4cfef_7 (x_J1_indexOfChar_4cfef E d mc ms Post)) := sn_iload dJ1_indexOfChar_4cfef_7 (sn_iload_n dJ1_indexOfChar_4cfef_9 rfl (sn_icmp_ge (tgt := 31) dJ1_indexOfChar_4cfef_10 (by decide) (sn_iconst dJ1_indexOfChar_4cfef_31 (by decide) (sn_iret rfl dJ1_indexOfChar_4cfef_32)) (sn_aload_n dJ1_indexOfChar_4cfef_13 rfl (sn_iload dJ1_indexOfChar_4cfef_14 (sn_bld dJ1_indexOfChar_4cfef_16 (sn_iload dJ1_indexOfChar_4cfef_17 (sn_icmp_ne (tgt := 25) dJ1_indexOfChar_4cfef_19 (by decide) (sn_iinc dJ1_indexOfChar_4cfef_25 (by decide) (Nat.le_of_ble_eq_true rfl) (sn_goto (tgt := 7) dJ1_indexOfChar_4cfef_28 (by decide) (mh_S.G))) (sn_iload dJ1_indexOfChar_4cfef_22 (sn_iret rfl dJ1_indexOfChar_4cfef_24)))))))))
def q_J1_indexOfChar_4cfef_0 (X : mh_X) : mh_PR := s_il 1 (s_un (fun x => x.toInt8.toInt32) (s_is 4 (s_il 2 (s_is 5 (mh_G X 7)))))
theorem b_J1_indexOfChar_4cfef_0 {E : mh_E} {d mc ms : Nat} {Post : Option Value → mh_H → Prop} : mh_S (x_J1_indexOfChar_4cfef E d mc ms Post) 0 (q_J1_indexOfChar_4cfef_0 (x_J1_indexOfChar_4cfef E d mc ms Post)) := sn_iload_n dJ1_indexOfChar_4cfef_0 rfl (sn_i2b dJ1_indexOfChar_4cfef_1 (sn_istore dJ1_indexOfChar_4cfef_2 (Nat.le_of_ble_eq_true rfl) (sn_iload_n dJ1_indexOfChar_4cfef_4 rfl (sn_istore dJ1_indexOfChar_4cfef_5 (Nat.le_of_ble_eq_true rfl) mh_S.G))))
theorem m_J1_indexOfChar_4cfef {E : mh_E} {d mc ms : Nat} {args : List Value} {h : mh_H} {Post : Option Value → mh_H → Prop} (lv : List (Option Value)) (hl : lv_args 0 args = mh_al 0 lv) (hs : (lg_sl args).length ≤ 6) (hG : q_J1_indexOfChar_4cfef_0 (x_J1_indexOfChar_4cfef E d mc ms Post) lv [] h 0 0) : mh_M E d mc ms yJ1_indexOfChar_4cfef args h Post := mh_M.of w_905 (by decide) (by decide) hl hs (b_J1_indexOfChar_4cfef_0 _ _ _ _ _ hG)
theorem dJ7_fill_53178_0 : decode cJ7_fill_53178 0 = .ok (.iconst 0, 1) := by decide +kernel
theorem dJ7_fill_53178_1 : decode cJ7_fill_53178 1 = .ok (.istore_n 2, 1) := by decide +kernel
theorem dJ7_fill_53178_2 : decode cJ7_fill_53178 2 = .ok (.aload_n 0, 1) := by decide +kernel
theorem dJ7_fill_53178_3 : decode cJ7_fill_53178 3 = .ok (.arraylength, 1) := by decide +kernel
theorem dJ7_fill_53178_4 : decode cJ7_fill_53178 4 = .ok (.istore_n 3, 1) := by decide +kernel
theorem dJ7_fill_53178_5 : decode cJ7_fill_53178 5 = .ok (.iload_n 2, 1) := by decide +kernel
theorem dJ7_fill_53178_6 : decode cJ7_fill_53178 6 = .ok (.iload_n 3, 1) := by decide +kernel
theorem dJ7_fill_53178_7 : decode cJ7_fill_53178 7 = .ok (.if_icmp .ge 13, 3) := by decide +kernel
theorem dJ7_fill_53178_10 : decode cJ7_fill_53178 10 = .ok (.aload_n 0, 1) := by decide +kernel
theorem dJ7_fill_53178_11 : decode cJ7_fill_53178 11 = .ok (.iload_n 2, 1) := by decide +kernel
theorem dJ7_fill_53178_12 : decode cJ7_fill_53178 12 = .ok (.iload_n 1, 1) := by decide +kernel
theorem dJ7_fill_53178_13 : decode cJ7_fill_53178 13 = .ok (.iastore, 1) := by decide +kernel
theorem dJ7_fill_53178_14 : decode cJ7_fill_53178 14 = .ok (.iinc 2 1, 3) := by decide +kernel
theorem dJ7_fill_53178_17 : decode cJ7_fill_53178 17 = .ok (.goto (-12), 3) := by decide +kernel
theorem dJ7_fill_53178_20 : decode cJ7_fill_53178 20 = .ok (.return_, 1) := by decide +kernel
abbrev x_J7_fill_53178 (E : mh_E) (d mc ms : Nat) (Post : Option Value → mh_H → Prop) : mh_X := (E, yJ7_fill_53178, cJ7_fill_53178, 4, none, d, mc, ms, Post)
def q_J7_fill_53178_5 (X : mh_X) : mh_PR := s_il 2 (s_il 3 (s_if2 (fun x y => y ≤ x) (s_vret X) (s_al 0 (s_il 2 (s_il 1 (s_ast 0 (fun x => x) (s_inc 2 (1) (mh_G X 5))))))))
theorem b_J7_fill_53178_5 {E : mh_E} {d mc ms : Nat} {Post : Option Value → mh_H → Prop} : mh_S (x_J7_fill_53178 E d mc ms Post) 5 (q_J7_fill_53178_5 (x_J7_fill_53178 E d mc ms Post)) := sn_iload_n dJ7_fill_53178_5 rfl (sn_iload_n dJ7_fill_53178_6 rfl (sn_icmp_ge (tgt := 20) dJ7_fill_53178_7 (by decide) (sn_vret rfl dJ7_fill_53178_20) (sn_aload_n dJ7_fill_53178_10 rfl (sn_iload_n dJ7_fill_53178_11 rfl (sn_iload_n dJ7_fill_53178_12 rfl (sn_iastore dJ7_fill_53178_13 (sn_iinc dJ7_fill_53178_14 (by decide) (Nat.le_of_ble_eq_true rfl) (sn_goto (tgt := 5) dJ7_fill_53178_17 (by decide) (mh_S.G)))))))))
def q_J7_fill_53178_0 (X : mh_X) : mh_PR := s_push (.int (0)) (s_is 2 (s_al 0 (s_alen (s_is 3 (mh_G X 5)))))
theorem b_J7_fill_53178_0 {E : mh_E} {d mc ms : Nat} {Post : Option Value → mh_H → Prop} : mh_S (x_J7_fill_53178 E d mc ms Post) 0 (q_J7_fill_53178_0 (x_J7_fill_53178 E d mc ms Post)) := sn_iconst dJ7_fill_53178_0 (by decide) (sn_istore_n dJ7_fill_53178_1 rfl (Nat.le_of_ble_eq_true rfl) (sn_aload_n dJ7_fill_53178_2 rfl (sn_alen dJ7_fill_53178_3 (sn_istore_n dJ7_fill_53178_4 rfl (Nat.le_of_ble_eq_true rfl) mh_S.G))))
theorem m_J7_fill_53178 {E : mh_E} {d mc ms : Nat} {args : List Value} {h : mh_H} {Post : Option Value → mh_H → Prop} (lv : List (Option Value)) (hl : lv_args 0 args = mh_al 0 lv) (hs : (lg_sl args).length ≤ 4) (hG : q_J7_fill_53178_0 (x_J7_fill_53178 E d mc ms Post) lv [] h 0 0) : mh_M E d mc ms yJ7_fill_53178 args h Post := mh_M.of w_123 (by decide) (by decide) hl hs (b_J7_fill_53178_0 _ _ _ _ _ hG)
theorem dJ7_copyOf_59c91_0 : decode cJ7_copyOf_59c91 0 = .ok (.iload_n 1, 1) := by decide +kernel
theorem dJ7_copyOf_59c91_1 : decode cJ7_copyOf_59c91 1 = .ok (.aload_n 0, 1) := by decide +kernel
theorem dJ7_copyOf_59c91_2 : decode cJ7_copyOf_59c91 2 = .ok (.arraylength, 1) := by decide +kernel
theorem dJ7_copyOf_59c91_3 : decode cJ7_copyOf_59c91 3 = .ok (.if_icmp .ne 11, 3) := by decide +kernel
theorem dJ7_copyOf_59c91_6 : decode cJ7_copyOf_59c91 6 = .ok (.aload_n 0, 1) := by decide +kernel
theorem dJ7_copyOf_59c91_7 : decode cJ7_copyOf_59c91 7 = .ok (.invokevirtual 316, 3) := by decide +kernel
theorem dJ7_copyOf_59c91_10 : decode cJ7_copyOf_59c91 10 = .ok (.checkcast 317, 3) := by decide +kernel
theorem dJ7_copyOf_59c91_13 : decode cJ7_copyOf_59c91 13 = .ok (.areturn, 1) := by decide +kernel
theorem dJ7_copyOf_59c91_14 : decode cJ7_copyOf_59c91 14 = .ok (.iload_n 1, 1) := by decide +kernel
theorem dJ7_copyOf_59c91_15 : decode cJ7_copyOf_59c91 15 = .ok (.newarray .int, 2) := by decide +kernel
theorem dJ7_copyOf_59c91_17 : decode cJ7_copyOf_59c91 17 = .ok (.astore_n 2, 1) := by decide +kernel
theorem dJ7_copyOf_59c91_18 : decode cJ7_copyOf_59c91 18 = .ok (.aload_n 0, 1) := by decide +kernel
theorem dJ7_copyOf_59c91_19 : decode cJ7_copyOf_59c91 19 = .ok (.iconst 0, 1) := by decide +kernel
theorem dJ7_copyOf_59c91_20 : decode cJ7_copyOf_59c91 20 = .ok (.aload_n 2, 1) := by decide +kernel
theorem dJ7_copyOf_59c91_21 : decode cJ7_copyOf_59c91 21 = .ok (.iconst 0, 1) := by decide +kernel
theorem dJ7_copyOf_59c91_22 : decode cJ7_copyOf_59c91 22 = .ok (.aload_n 0, 1) := by decide +kernel
theorem dJ7_copyOf_59c91_23 : decode cJ7_copyOf_59c91 23 = .ok (.arraylength, 1) := by decide +kernel
theorem dJ7_copyOf_59c91_24 : decode cJ7_copyOf_59c91 24 = .ok (.iload_n 1, 1) := by decide +kernel
theorem dJ7_copyOf_59c91_25 : decode cJ7_copyOf_59c91 25 = .ok (.invokestatic 304, 3) := by decide +kernel
theorem dJ7_copyOf_59c91_28 : decode cJ7_copyOf_59c91 28 = .ok (.invokestatic 150, 3) := by decide +kernel
theorem dJ7_copyOf_59c91_31 : decode cJ7_copyOf_59c91 31 = .ok (.aload_n 2, 1) := by decide +kernel
theorem dJ7_copyOf_59c91_32 : decode cJ7_copyOf_59c91 32 = .ok (.areturn, 1) := by decide +kernel
abbrev x_J7_copyOf_59c91 (E : mh_E) (d mc ms : Nat) (Post : Option Value → mh_H → Prop) : mh_X := (E, yJ7_copyOf_59c91, cJ7_copyOf_59c91, 3, (some (.array .int)), d, mc, ms, Post)
def q_J7_copyOf_59c91_0 (X : mh_X) : mh_PR := s_il 1 (s_al 0 (s_alen (s_if2 (fun x y => ¬ x = y) (s_il 1 (s_newa X 0 (s_as 2 (s_al 0 (s_push (.int (0)) (s_al 2 (s_push (.int (0)) (s_al 0 (s_alen (s_il 1 (s_mm X (fun x y => if y < x then y else x) (s_ac X (s_al 2 (s_aret X)))))))))))))) (s_al 0 (s_no)))))
theorem b_J7_copyOf_59c91_0 {E : mh_E} {d mc ms : Nat} {Post : Option Value → mh_H → Prop} : mh_S (x_J7_copyOf_59c91 E d mc ms Post) 0 (q_J7_copyOf_59c91_0 (x_J7_copyOf_59c91 E d mc ms Post)) := sn_iload_n dJ7_copyOf_59c91_0 rfl (sn_aload_n dJ7_copyOf_59c91_1 rfl (sn_alen dJ7_copyOf_59c91_2 (sn_icmp_ne (tgt := 14) dJ7_copyOf_59c91_3 (by decide) (sn_iload_n dJ7_copyOf_59c91_14 rfl (sn_newint w_109 dJ7_copyOf_59c91_15 (sn_astore_n dJ7_copyOf_59c91_17 rfl (Nat.le_of_ble_eq_true rfl) (sn_aload_n dJ7_copyOf_59c91_18 rfl (sn_iconst dJ7_copyOf_59c91_19 (by decide) (sn_aload_n dJ7_copyOf_59c91_20 rfl (sn_iconst dJ7_copyOf_59c91_21 (by decide) (sn_aload_n dJ7_copyOf_59c91_22 rfl (sn_alen dJ7_copyOf_59c91_23 (sn_iload_n dJ7_copyOf_59c91_24 rfl (sn_mmin w_972 w_456 w_67 w_math_min dJ7_copyOf_59c91_25 (sn_ac w_973 w_acN w_acS w_70 dJ7_copyOf_59c91_28 (sn_aload_n dJ7_copyOf_59c91_31 rfl (sn_aret rfl (Or.inr ⟨_, rfl⟩) dJ7_copyOf_59c91_32)))))))))))))) (sn_aload_n dJ7_copyOf_59c91_6 rfl sn_no))))
theorem m_J7_copyOf_59c91 {E : mh_E} {d mc ms : Nat} {args : List Value} {h : mh_H} {Post : Option Value → mh_H → Prop} (lv : List (Option Value)) (hl : lv_args 0 args = mh_al 0 lv) (hs : (lg_sl args).length ≤ 3) (hG : q_J7_copyOf_59c91_0 (x_J7_copyOf_59c91 E d mc ms Post) lv [] h 0 0) : mh_M E d mc ms yJ7_copyOf_59c91 args h Post := mh_M.of w_964 (by decide) (by decide) hl hs (b_J7_copyOf_59c91_0 _ _ _ _ _ hG)
theorem dJ3_checkIndex_8e157_0 : decode cJ3_checkIndex_8e157 0 = .ok (.iload_n 0, 1) := by decide +kernel
theorem dJ3_checkIndex_8e157_1 : decode cJ3_checkIndex_8e157 1 = .ok (.ifCond .lt 8, 3) := by decide +kernel
theorem dJ3_checkIndex_8e157_4 : decode cJ3_checkIndex_8e157 4 = .ok (.iload_n 0, 1) := by decide +kernel
theorem dJ3_checkIndex_8e157_5 : decode cJ3_checkIndex_8e157 5 = .ok (.iload_n 1, 1) := by decide +kernel
theorem dJ3_checkIndex_8e157_6 : decode cJ3_checkIndex_8e157 6 = .ok (.if_icmp .lt 10, 3) := by decide +kernel
theorem dJ3_checkIndex_8e157_9 : decode cJ3_checkIndex_8e157 9 = .ok (.aload_n 2, 1) := by decide +kernel
theorem dJ3_checkIndex_8e157_10 : decode cJ3_checkIndex_8e157 10 = .ok (.iload_n 0, 1) := by decide +kernel
theorem dJ3_checkIndex_8e157_11 : decode cJ3_checkIndex_8e157 11 = .ok (.iload_n 1, 1) := by decide +kernel
theorem dJ3_checkIndex_8e157_12 : decode cJ3_checkIndex_8e157 12 = .ok (.invokestatic 95, 3) := by decide +kernel
theorem dJ3_checkIndex_8e157_15 : decode cJ3_checkIndex_8e157 15 = .ok (.athrow, 1) := by decide +kernel
theorem dJ3_checkIndex_8e157_16 : decode cJ3_checkIndex_8e157 16 = .ok (.iload_n 0, 1) := by decide +kernel
theorem dJ3_checkIndex_8e157_17 : decode cJ3_checkIndex_8e157 17 = .ok (.ireturn, 1) := by decide +kernel
abbrev x_J3_checkIndex_8e157 (E : mh_E) (d mc ms : Nat) (Post : Option Value → mh_H → Prop) : mh_X := (E, yJ3_checkIndex_8e157, cJ3_checkIndex_8e157, 3, (some .int), d, mc, ms, Post)
def q_J3_checkIndex_8e157_9 (X : mh_X) : mh_PR := s_al 2 (s_il 0 (s_il 1 (s_no)))
theorem b_J3_checkIndex_8e157_9 {E : mh_E} {d mc ms : Nat} {Post : Option Value → mh_H → Prop} : mh_S (x_J3_checkIndex_8e157 E d mc ms Post) 9 (q_J3_checkIndex_8e157_9 (x_J3_checkIndex_8e157 E d mc ms Post)) := sn_aload_n dJ3_checkIndex_8e157_9 rfl (sn_iload_n dJ3_checkIndex_8e157_10 rfl (sn_iload_n dJ3_checkIndex_8e157_11 rfl sn_no))
def q_J3_checkIndex_8e157_0 (X : mh_X) : mh_PR := s_il 0 (s_if1 (fun x => x < 0) (q_J3_checkIndex_8e157_9 X) (s_il 0 (s_il 1 (s_if2 (fun x y => x < y) (s_il 0 (s_iret X)) (q_J3_checkIndex_8e157_9 X)))))
theorem b_J3_checkIndex_8e157_0 {E : mh_E} {d mc ms : Nat} {Post : Option Value → mh_H → Prop} : mh_S (x_J3_checkIndex_8e157 E d mc ms Post) 0 (q_J3_checkIndex_8e157_0 (x_J3_checkIndex_8e157 E d mc ms Post)) := sn_iload_n dJ3_checkIndex_8e157_0 rfl (sn_if_lt (tgt := 9) dJ3_checkIndex_8e157_1 (by decide) (b_J3_checkIndex_8e157_9) (sn_iload_n dJ3_checkIndex_8e157_4 rfl (sn_iload_n dJ3_checkIndex_8e157_5 rfl (sn_icmp_lt (tgt := 16) dJ3_checkIndex_8e157_6 (by decide) (sn_iload_n dJ3_checkIndex_8e157_16 rfl (sn_iret rfl dJ3_checkIndex_8e157_17)) (b_J3_checkIndex_8e157_9)))))
theorem m_J3_checkIndex_8e157 {E : mh_E} {d mc ms : Nat} {args : List Value} {h : mh_H} {Post : Option Value → mh_H → Prop} (lv : List (Option Value)) (hl : lv_args 0 args = mh_al 0 lv) (hs : (lg_sl args).length ≤ 3) (hG : q_J3_checkIndex_8e157_0 (x_J3_checkIndex_8e157 E d mc ms Post) lv [] h 0 0) : mh_M E d mc ms yJ3_checkIndex_8e157 args h Post := mh_M.of w_836 (by decide) (by decide) hl hs (b_J3_checkIndex_8e157_0 _ _ _ _ _ hG)
