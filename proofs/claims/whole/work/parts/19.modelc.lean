theorem dX10_within_0 : decode cX10_within 0 = .ok (.iload_n 0, 1) := by decide +kernel
theorem dX10_within_1 : decode cX10_within 1 = .ok (.iload_n 1, 1) := by decide +kernel
theorem dX10_within_2 : decode cX10_within 2 = .ok (.if_icmp .ge 7, 3) := by decide +kernel
theorem dX10_within_5 : decode cX10_within 5 = .ok (.iload_n 1, 1) := by decide +kernel
theorem dX10_within_6 : decode cX10_within 6 = .ok (.goto 13, 3) := by decide +kernel
theorem dX10_within_9 : decode cX10_within 9 = .ok (.iload_n 0, 1) := by decide +kernel
theorem dX10_within_10 : decode cX10_within 10 = .ok (.iload_n 2, 1) := by decide +kernel
theorem dX10_within_11 : decode cX10_within 11 = .ok (.if_icmp .le 7, 3) := by decide +kernel
theorem dX10_within_14 : decode cX10_within 14 = .ok (.iload_n 2, 1) := by decide +kernel
theorem dX10_within_15 : decode cX10_within 15 = .ok (.goto 4, 3) := by decide +kernel
theorem dX10_within_18 : decode cX10_within 18 = .ok (.iload_n 0, 1) := by decide +kernel
theorem dX10_within_19 : decode cX10_within 19 = .ok (.ireturn, 1) := by decide +kernel
abbrev x_X10_within (E : mh_E) (d mc ms : Nat) (Post : Option Value → mh_H → Prop) : mh_X := (E, yX10_within, cX10_within, 3, (some .int), d, mc, ms, Post)
def q_X10_within_19 (X : mh_X) : mh_PR := s_iret X
theorem b_X10_within_19 {E : mh_E} {d mc ms : Nat} {Post : Option Value → mh_H → Prop} : mh_S (x_X10_within E d mc ms Post) 19 (q_X10_within_19 (x_X10_within E d mc ms Post)) := sn_iret rfl dX10_within_19
def q_X10_within_0 (X : mh_X) : mh_PR := s_il 0 (s_il 1 (s_if2 (fun x y => y ≤ x) (s_il 0 (s_il 2 (s_if2 (fun x y => x ≤ y) (s_il 0 (q_X10_within_19 X)) (s_il 2 (q_X10_within_19 X))))) (s_il 1 (q_X10_within_19 X))))
theorem b_X10_within_0 {E : mh_E} {d mc ms : Nat} {Post : Option Value → mh_H → Prop} : mh_S (x_X10_within E d mc ms Post) 0 (q_X10_within_0 (x_X10_within E d mc ms Post)) := sn_iload_n dX10_within_0 rfl (sn_iload_n dX10_within_1 rfl (sn_icmp_ge (tgt := 9) dX10_within_2 (by decide) (sn_iload_n dX10_within_9 rfl (sn_iload_n dX10_within_10 rfl (sn_icmp_le (tgt := 18) dX10_within_11 (by decide) (sn_iload_n dX10_within_18 rfl b_X10_within_19) (sn_iload_n dX10_within_14 rfl (sn_goto (tgt := 19) dX10_within_15 (by decide) (b_X10_within_19)))))) (sn_iload_n dX10_within_5 rfl (sn_goto (tgt := 19) dX10_within_6 (by decide) (b_X10_within_19)))))
theorem m_X10_within {E : mh_E} {d mc ms : Nat} {args : List Value} {h : mh_H} {Post : Option Value → mh_H → Prop} (lv : List (Option Value)) (hl : lv_args 0 args = mh_al 0 lv) (hs : (lg_sl args).length ≤ 3) (hG : q_X10_within_0 (x_X10_within E d mc ms Post) lv [] h 0 0) : mh_M E d mc ms yX10_within args h Post := mh_M.of w_1266 (by decide) (by decide) hl hs (b_X10_within_0 _ _ _ _ _ hG)
theorem dX10_squareOf_0 : decode cX10_squareOf 0 = .ok (.aload_n 0, 1) := by decide +kernel
theorem dX10_squareOf_1 : decode cX10_squareOf 1 = .ok (.getfield 9, 3) := by decide +kernel
theorem dX10_squareOf_4 : decode cX10_squareOf 4 = .ok (.bipush 8, 2) := by decide +kernel
theorem dX10_squareOf_6 : decode cX10_squareOf 6 = .ok (.iconst 2, 1) := by decide +kernel
theorem dX10_squareOf_7 : decode cX10_squareOf 7 = .ok (.iload_n 1, 1) := by decide +kernel
theorem dX10_squareOf_8 : decode cX10_squareOf 8 = .ok (.imul, 1) := by decide +kernel
theorem dX10_squareOf_9 : decode cX10_squareOf 9 = .ok (.iadd, 1) := by decide +kernel
theorem dX10_squareOf_10 : decode cX10_squareOf 10 = .ok (.iaload, 1) := by decide +kernel
theorem dX10_squareOf_11 : decode cX10_squareOf 11 = .ok (.ireturn, 1) := by decide +kernel
abbrev x_X10_squareOf (E : mh_E) (d mc ms : Nat) (Post : Option Value → mh_H → Prop) : mh_X := (E, yX10_squareOf, cX10_squareOf, 2, (some .int), d, mc, ms, Post)
def q_X10_squareOf_0 (X : mh_X) : mh_PR := s_al 0 (s_gr 10 0 (s_push (.int (8)) (s_push (.int (2)) (s_il 1 (s_bin (fun x y => x * y) (s_bin (fun x y => x + y) (s_ald 0 (s_iret X))))))))
theorem b_X10_squareOf_0 {E : mh_E} {d mc ms : Nat} {Post : Option Value → mh_H → Prop} : mh_S (x_X10_squareOf E d mc ms Post) 0 (q_X10_squareOf_0 (x_X10_squareOf E d mc ms Post)) := sn_aload_n dX10_squareOf_0 rfl (sn_getr clX10 (by decide) w_1100 dX10_squareOf_1 (sn_bipush dX10_squareOf_4 (by decide) (sn_iconst dX10_squareOf_6 (by decide) (sn_iload_n dX10_squareOf_7 rfl (sn_imul dX10_squareOf_8 (sn_iadd dX10_squareOf_9 (sn_iaload dX10_squareOf_10 (sn_iret rfl dX10_squareOf_11))))))))
theorem m_X10_squareOf {E : mh_E} {d mc ms : Nat} {args : List Value} {h : mh_H} {Post : Option Value → mh_H → Prop} (lv : List (Option Value)) (hl : lv_args 0 args = mh_al 0 lv) (hs : (lg_sl args).length ≤ 2) (hG : q_X10_squareOf_0 (x_X10_squareOf E d mc ms Post) lv [] h 0 0) : mh_M E d mc ms yX10_squareOf args h Post := mh_M.of w_1246 (by decide) (by decide) hl hs (b_X10_squareOf_0 _ _ _ _ _ hG)
theorem dX10_swaps_0 : decode cX10_swaps 0 = .ok (.aload_n 0, 1) := by decide +kernel
theorem dX10_swaps_1 : decode cX10_swaps 1 = .ok (.getfield 9, 3) := by decide +kernel
theorem dX10_swaps_4 : decode cX10_swaps 4 = .ok (.iload_n 1, 1) := by decide +kernel
theorem dX10_swaps_5 : decode cX10_swaps 5 = .ok (.iaload, 1) := by decide +kernel
theorem dX10_swaps_6 : decode cX10_swaps 6 = .ok (.istore_n 3, 1) := by decide +kernel
theorem dX10_swaps_7 : decode cX10_swaps 7 = .ok (.aload_n 0, 1) := by decide +kernel
theorem dX10_swaps_8 : decode cX10_swaps 8 = .ok (.getfield 9, 3) := by decide +kernel
theorem dX10_swaps_11 : decode cX10_swaps 11 = .ok (.iload_n 1, 1) := by decide +kernel
theorem dX10_swaps_12 : decode cX10_swaps 12 = .ok (.iload_n 2, 1) := by decide +kernel
theorem dX10_swaps_13 : decode cX10_swaps 13 = .ok (.iastore, 1) := by decide +kernel
theorem dX10_swaps_14 : decode cX10_swaps 14 = .ok (.iload_n 3, 1) := by decide +kernel
theorem dX10_swaps_15 : decode cX10_swaps 15 = .ok (.ireturn, 1) := by decide +kernel
abbrev x_X10_swaps (E : mh_E) (d mc ms : Nat) (Post : Option Value → mh_H → Prop) : mh_X := (E, yX10_swaps, cX10_swaps, 4, (some .int), d, mc, ms, Post)
def q_X10_swaps_0 (X : mh_X) : mh_PR := s_al 0 (s_gr 10 0 (s_il 1 (s_ald 0 (s_is 3 (s_al 0 (s_gr 10 0 (s_il 1 (s_il 2 (s_ast 0 (fun x => x) (s_il 3 (s_iret X)))))))))))
theorem b_X10_swaps_0 {E : mh_E} {d mc ms : Nat} {Post : Option Value → mh_H → Prop} : mh_S (x_X10_swaps E d mc ms Post) 0 (q_X10_swaps_0 (x_X10_swaps E d mc ms Post)) := sn_aload_n dX10_swaps_0 rfl (sn_getr clX10 (by decide) w_1100 dX10_swaps_1 (sn_iload_n dX10_swaps_4 rfl (sn_iaload dX10_swaps_5 (sn_istore_n dX10_swaps_6 rfl (Nat.le_of_ble_eq_true rfl) (sn_aload_n dX10_swaps_7 rfl (sn_getr clX10 (by decide) w_1100 dX10_swaps_8 (sn_iload_n dX10_swaps_11 rfl (sn_iload_n dX10_swaps_12 rfl (sn_iastore dX10_swaps_13 (sn_iload_n dX10_swaps_14 rfl (sn_iret rfl dX10_swaps_15)))))))))))
theorem m_X10_swaps {E : mh_E} {d mc ms : Nat} {args : List Value} {h : mh_H} {Post : Option Value → mh_H → Prop} (lv : List (Option Value)) (hl : lv_args 0 args = mh_al 0 lv) (hs : (lg_sl args).length ≤ 4) (hG : q_X10_swaps_0 (x_X10_swaps E d mc ms Post) lv [] h 0 0) : mh_M E d mc ms yX10_swaps args h Post := mh_M.of w_1293 (by decide) (by decide) hl hs (b_X10_swaps_0 _ _ _ _ _ hG)
theorem dX10_stone_0 : decode cX10_stone 0 = .ok (.iload_n 1, 1) := by decide +kernel
theorem dX10_stone_1 : decode cX10_stone 1 = .ok (.iconst 0, 1) := by decide +kernel
theorem dX10_stone_2 : decode cX10_stone 2 = .ok (.iconst 5, 1) := by decide +kernel
theorem dX10_stone_3 : decode cX10_stone 3 = .ok (.invokestatic 79, 3) := by decide +kernel
theorem dX10_stone_6 : decode cX10_stone 6 = .ok (.ifCond .eq 37, 3) := by decide +kernel
theorem dX10_stone_9 : decode cX10_stone 9 = .ok (.iconst 1, 1) := by decide +kernel
theorem dX10_stone_10 : decode cX10_stone 10 = .ok (.iload_n 2, 1) := by decide +kernel
theorem dX10_stone_11 : decode cX10_stone 11 = .ok (.invokestatic 87, 3) := by decide +kernel
theorem dX10_stone_14 : decode cX10_stone 14 = .ok (.ifCond .eq 29, 3) := by decide +kernel
theorem dX10_stone_17 : decode cX10_stone 17 = .ok (.iconst 2, 1) := by decide +kernel
theorem dX10_stone_18 : decode cX10_stone 18 = .ok (.iload_n 3, 1) := by decide +kernel
theorem dX10_stone_19 : decode cX10_stone 19 = .ok (.invokestatic 87, 3) := by decide +kernel
theorem dX10_stone_22 : decode cX10_stone 22 = .ok (.ifCond .eq 21, 3) := by decide +kernel
theorem dX10_stone_25 : decode cX10_stone 25 = .ok (.iconst 3, 1) := by decide +kernel
theorem dX10_stone_26 : decode cX10_stone 26 = .ok (.iload 4, 2) := by decide +kernel
theorem dX10_stone_28 : decode cX10_stone 28 = .ok (.invokestatic 87, 3) := by decide +kernel
theorem dX10_stone_31 : decode cX10_stone 31 = .ok (.ifCond .eq 12, 3) := by decide +kernel
theorem dX10_stone_34 : decode cX10_stone 34 = .ok (.iconst 4, 1) := by decide +kernel
theorem dX10_stone_35 : decode cX10_stone 35 = .ok (.iload 5, 2) := by decide +kernel
theorem dX10_stone_37 : decode cX10_stone 37 = .ok (.invokestatic 87, 3) := by decide +kernel
theorem dX10_stone_40 : decode cX10_stone 40 = .ok (.ifCond .ne 6, 3) := by decide +kernel
theorem dX10_stone_43 : decode cX10_stone 43 = .ok (.ldc 91, 2) := by decide +kernel
theorem dX10_stone_45 : decode cX10_stone 45 = .ok (.ireturn, 1) := by decide +kernel
theorem dX10_stone_46 : decode cX10_stone 46 = .ok (.aload_n 0, 1) := by decide +kernel
theorem dX10_stone_47 : decode cX10_stone 47 = .ok (.getfield 9, 3) := by decide +kernel
theorem dX10_stone_50 : decode cX10_stone 50 = .ok (.iconst 1, 1) := by decide +kernel
theorem dX10_stone_51 : decode cX10_stone 51 = .ok (.iaload, 1) := by decide +kernel
theorem dX10_stone_52 : decode cX10_stone 52 = .ok (.bipush 10, 2) := by decide +kernel
theorem dX10_stone_54 : decode cX10_stone 54 = .ok (.if_icmp .ne 8, 3) := by decide +kernel
theorem dX10_stone_57 : decode cX10_stone 57 = .ok (.ldc 92, 2) := by decide +kernel
theorem dX10_stone_59 : decode cX10_stone 59 = .ok (.goto 14, 3) := by decide +kernel
theorem dX10_stone_62 : decode cX10_stone 62 = .ok (.aload_n 0, 1) := by decide +kernel
theorem dX10_stone_63 : decode cX10_stone 63 = .ok (.iload_n 1, 1) := by decide +kernel
theorem dX10_stone_64 : decode cX10_stone 64 = .ok (.iload_n 2, 1) := by decide +kernel
theorem dX10_stone_65 : decode cX10_stone 65 = .ok (.iload_n 3, 1) := by decide +kernel
theorem dX10_stone_66 : decode cX10_stone 66 = .ok (.iload 4, 2) := by decide +kernel
theorem dX10_stone_68 : decode cX10_stone 68 = .ok (.iload 5, 2) := by decide +kernel
theorem dX10_stone_70 : decode cX10_stone 70 = .ok (.invokevirtual 93, 3) := by decide +kernel
theorem dX10_stone_73 : decode cX10_stone 73 = .ok (.ireturn, 1) := by decide +kernel
abbrev x_X10_stone (E : mh_E) (d mc ms : Nat) (Post : Option Value → mh_H → Prop) : mh_X := (E, yX10_stone, cX10_stone, 6, (some .int), d, mc, ms, Post)
def q_X10_stone_73 (X : mh_X) : mh_PR := s_iret X
theorem b_X10_stone_73 {E : mh_E} {d mc ms : Nat} {Post : Option Value → mh_H → Prop} : mh_S (x_X10_stone E d mc ms Post) 73 (q_X10_stone_73 (x_X10_stone E d mc ms Post)) := sn_iret rfl dX10_stone_73
def q_X10_stone_43 (X : mh_X) : mh_PR := s_push (.int (-1000000001)) (s_iret X)
theorem b_X10_stone_43 {E : mh_E} {d mc ms : Nat} {Post : Option Value → mh_H → Prop} : mh_S (x_X10_stone E d mc ms Post) 43 (q_X10_stone_43 (x_X10_stone E d mc ms Post)) := sn_ldc dX10_stone_43 w_1216 (sn_iret rfl dX10_stone_45)
def q_X10_stone_0 (X : mh_X) : mh_PR := s_il 1 (s_push (.int (0)) (s_push (.int (5)) (s_cs X yX10_in 3 (s_if1 (fun x => x = 0) (q_X10_stone_43 X) (s_push (.int (1)) (s_il 2 (s_cs X yX10_isOf 2 (s_if1 (fun x => x = 0) (q_X10_stone_43 X) (s_push (.int (2)) (s_il 3 (s_cs X yX10_isOf 2 (s_if1 (fun x => x = 0) (q_X10_stone_43 X) (s_push (.int (3)) (s_il 4 (s_cs X yX10_isOf 2 (s_if1 (fun x => x = 0) (q_X10_stone_43 X) (s_push (.int (4)) (s_il 5 (s_cs X yX10_isOf 2 (s_if1 (fun x => ¬ x = 0) (s_al 0 (s_gr 10 0 (s_push (.int (1)) (s_ald 0 (s_push (.int (10)) (s_if2 (fun x y => ¬ x = y) (s_al 0 (s_il 1 (s_il 2 (s_il 3 (s_il 4 (s_il 5 (s_cv X yX10_comes 10 5 (q_X10_stone_73 X)))))))) (s_push (.int (-1000000003)) (q_X10_stone_73 X)))))))) (q_X10_stone_43 X)))))))))))))))))))))
theorem b_X10_stone_0 {E : mh_E} {d mc ms : Nat} {Post : Option Value → mh_H → Prop} : mh_S (x_X10_stone E d mc ms Post) 0 (q_X10_stone_0 (x_X10_stone E d mc ms Post)) := sn_iload_n dX10_stone_0 rfl (sn_iconst dX10_stone_1 (by decide) (sn_iconst dX10_stone_2 (by decide) (sn_cs w_1210 w_1211 w_66 nm_X10_in dX10_stone_3 (sn_if_eq (tgt := 43) dX10_stone_6 (by decide) (b_X10_stone_43) (sn_iconst dX10_stone_9 (by decide) (sn_iload_n dX10_stone_10 rfl (sn_cs w_1213 w_1214 w_66 nm_X10_isOf dX10_stone_11 (sn_if_eq (tgt := 43) dX10_stone_14 (by decide) (b_X10_stone_43) (sn_iconst dX10_stone_17 (by decide) (sn_iload_n dX10_stone_18 rfl (sn_cs w_1213 w_1214 w_66 nm_X10_isOf dX10_stone_19 (sn_if_eq (tgt := 43) dX10_stone_22 (by decide) (b_X10_stone_43) (sn_iconst dX10_stone_25 (by decide) (sn_iload dX10_stone_26 (sn_cs w_1213 w_1214 w_66 nm_X10_isOf dX10_stone_28 (sn_if_eq (tgt := 43) dX10_stone_31 (by decide) (b_X10_stone_43) (sn_iconst dX10_stone_34 (by decide) (sn_iload dX10_stone_35 (sn_cs w_1213 w_1214 w_66 nm_X10_isOf dX10_stone_37 (sn_if_ne (tgt := 46) dX10_stone_40 (by decide) (sn_aload_n dX10_stone_46 rfl (sn_getr clX10 (by decide) w_1100 dX10_stone_47 (sn_iconst dX10_stone_50 (by decide) (sn_iaload dX10_stone_51 (sn_bipush dX10_stone_52 (by decide) (sn_icmp_ne (tgt := 62) dX10_stone_54 (by decide) (sn_aload_n dX10_stone_62 rfl (sn_iload_n dX10_stone_63 rfl (sn_iload_n dX10_stone_64 rfl (sn_iload_n dX10_stone_65 rfl (sn_iload dX10_stone_66 (sn_iload dX10_stone_68 (sn_cv w_1218 w_1220 w_21 w_66 rfl nm_X10_comes dX10_stone_70 b_X10_stone_73))))))) (sn_ldc dX10_stone_57 w_1217 (sn_goto (tgt := 73) dX10_stone_59 (by decide) (b_X10_stone_73))))))))) (b_X10_stone_43)))))))))))))))))))))
theorem m_X10_stone {E : mh_E} {d mc ms : Nat} {args : List Value} {h : mh_H} {Post : Option Value → mh_H → Prop} (lv : List (Option Value)) (hl : lv_args 0 args = mh_al 0 lv) (hs : (lg_sl args).length ≤ 6) (hG : q_X10_stone_0 (x_X10_stone E d mc ms Post) lv [] h 0 0) : mh_M E d mc ms yX10_stone args h Post := mh_M.of w_1209 (by decide) (by decide) hl hs (b_X10_stone_0 _ _ _ _ _ hG)
theorem dX10_worthOf_0 : decode cX10_worthOf 0 = .ok (.aload_n 0, 1) := by decide +kernel
theorem dX10_worthOf_1 : decode cX10_worthOf 1 = .ok (.iload_n 1, 1) := by decide +kernel
theorem dX10_worthOf_2 : decode cX10_worthOf 2 = .ok (.iconst 3, 1) := by decide +kernel
theorem dX10_worthOf_3 : decode cX10_worthOf 3 = .ok (.invokevirtual 104, 3) := by decide +kernel
theorem dX10_worthOf_6 : decode cX10_worthOf 6 = .ok (.istore_n 2, 1) := by decide +kernel
theorem dX10_worthOf_7 : decode cX10_worthOf 7 = .ok (.aload_n 0, 1) := by decide +kernel
theorem dX10_worthOf_8 : decode cX10_worthOf 8 = .ok (.iload_n 1, 1) := by decide +kernel
theorem dX10_worthOf_9 : decode cX10_worthOf 9 = .ok (.iconst 0, 1) := by decide +kernel
theorem dX10_worthOf_10 : decode cX10_worthOf 10 = .ok (.invokevirtual 104, 3) := by decide +kernel
theorem dX10_worthOf_13 : decode cX10_worthOf 13 = .ok (.tableswitch 57 1 5 #[35, 39, 44, 50, 54], 35) := by decide +kernel
theorem dX10_worthOf_48 : decode cX10_worthOf 48 = .ok (.iload_n 2, 1) := by decide +kernel
theorem dX10_worthOf_49 : decode cX10_worthOf 49 = .ok (.iconst 5, 1) := by decide +kernel
theorem dX10_worthOf_50 : decode cX10_worthOf 50 = .ok (.iadd, 1) := by decide +kernel
theorem dX10_worthOf_51 : decode cX10_worthOf 51 = .ok (.ireturn, 1) := by decide +kernel
theorem dX10_worthOf_52 : decode cX10_worthOf 52 = .ok (.bipush 9, 2) := by decide +kernel
theorem dX10_worthOf_54 : decode cX10_worthOf 54 = .ok (.iload_n 2, 1) := by decide +kernel
theorem dX10_worthOf_55 : decode cX10_worthOf 55 = .ok (.isub, 1) := by decide +kernel
theorem dX10_worthOf_56 : decode cX10_worthOf 56 = .ok (.ireturn, 1) := by decide +kernel
theorem dX10_worthOf_57 : decode cX10_worthOf 57 = .ok (.iconst 2, 1) := by decide +kernel
theorem dX10_worthOf_58 : decode cX10_worthOf 58 = .ok (.iload_n 2, 1) := by decide +kernel
theorem dX10_worthOf_59 : decode cX10_worthOf 59 = .ok (.iconst 5, 1) := by decide +kernel
theorem dX10_worthOf_60 : decode cX10_worthOf 60 = .ok (.iadd, 1) := by decide +kernel
theorem dX10_worthOf_61 : decode cX10_worthOf 61 = .ok (.imul, 1) := by decide +kernel
theorem dX10_worthOf_62 : decode cX10_worthOf 62 = .ok (.ireturn, 1) := by decide +kernel
theorem dX10_worthOf_63 : decode cX10_worthOf 63 = .ok (.iconst 5, 1) := by decide +kernel
theorem dX10_worthOf_64 : decode cX10_worthOf 64 = .ok (.iload_n 2, 1) := by decide +kernel
theorem dX10_worthOf_65 : decode cX10_worthOf 65 = .ok (.isub, 1) := by decide +kernel
theorem dX10_worthOf_66 : decode cX10_worthOf 66 = .ok (.ireturn, 1) := by decide +kernel
theorem dX10_worthOf_67 : decode cX10_worthOf 67 = .ok (.bipush 8, 2) := by decide +kernel
theorem dX10_worthOf_69 : decode cX10_worthOf 69 = .ok (.ireturn, 1) := by decide +kernel
theorem dX10_worthOf_70 : decode cX10_worthOf 70 = .ok (.iload_n 2, 1) := by decide +kernel
theorem dX10_worthOf_71 : decode cX10_worthOf 71 = .ok (.ireturn, 1) := by decide +kernel
abbrev x_X10_worthOf (E : mh_E) (d mc ms : Nat) (Post : Option Value → mh_H → Prop) : mh_X := (E, yX10_worthOf, cX10_worthOf, 3, (some .int), d, mc, ms, Post)
def q_X10_worthOf_0 (X : mh_X) : mh_PR := s_al 0 (s_il 1 (s_push (.int (3)) (s_cv X yX10_of 10 2 (s_is 2 (s_al 0 (s_il 1 (s_push (.int (0)) (s_cv X yX10_of 10 2 (s_sw [((1 : Int32), s_il 2 (s_push (.int (5)) (s_bin (fun x y => x + y) (s_iret X)))), ((2 : Int32), s_push (.int (9)) (s_il 2 (s_bin (fun x y => x - y) (s_iret X)))), ((3 : Int32), s_push (.int (2)) (s_il 2 (s_push (.int (5)) (s_bin (fun x y => x + y) (s_bin (fun x y => x * y) (s_iret X)))))), ((4 : Int32), s_push (.int (5)) (s_il 2 (s_bin (fun x y => x - y) (s_iret X)))), ((5 : Int32), s_push (.int (8)) (s_iret X))] (s_il 2 (s_iret X)))))))))))
theorem b_X10_worthOf_0 {E : mh_E} {d mc ms : Nat} {Post : Option Value → mh_H → Prop} : mh_S (x_X10_worthOf E d mc ms Post) 0 (q_X10_worthOf_0 (x_X10_worthOf E d mc ms Post)) := sn_aload_n dX10_worthOf_0 rfl (sn_iload_n dX10_worthOf_1 rfl (sn_iconst dX10_worthOf_2 (by decide) (sn_cv w_1234 w_1236 w_24 w_66 rfl nm_X10_of dX10_worthOf_3 (sn_istore_n dX10_worthOf_6 rfl (Nat.le_of_ble_eq_true rfl) (sn_aload_n dX10_worthOf_7 rfl (sn_iload_n dX10_worthOf_8 rfl (sn_iconst dX10_worthOf_9 (by decide) (sn_cv w_1234 w_1236 w_24 w_66 rfl nm_X10_of dX10_worthOf_10 (sn_table (tgt := 70) (ts := [(1, 35, 48), (2, 39, 52), (3, 44, 57), (4, 50, 63), (5, 54, 67)]) dX10_worthOf_13 (by decide +kernel) (by decide +kernel) (sw_cons (sn_iload_n dX10_worthOf_48 rfl (sn_iconst dX10_worthOf_49 (by decide) (sn_iadd dX10_worthOf_50 (sn_iret rfl dX10_worthOf_51)))) (sw_cons (sn_bipush dX10_worthOf_52 (by decide) (sn_iload_n dX10_worthOf_54 rfl (sn_isub dX10_worthOf_55 (sn_iret rfl dX10_worthOf_56)))) (sw_cons (sn_iconst dX10_worthOf_57 (by decide) (sn_iload_n dX10_worthOf_58 rfl (sn_iconst dX10_worthOf_59 (by decide) (sn_iadd dX10_worthOf_60 (sn_imul dX10_worthOf_61 (sn_iret rfl dX10_worthOf_62)))))) (sw_cons (sn_iconst dX10_worthOf_63 (by decide) (sn_iload_n dX10_worthOf_64 rfl (sn_isub dX10_worthOf_65 (sn_iret rfl dX10_worthOf_66)))) (sw_cons (sn_bipush dX10_worthOf_67 (by decide) (sn_iret rfl dX10_worthOf_69)) sw_nil))))) (by decide) (sn_iload_n dX10_worthOf_70 rfl (sn_iret rfl dX10_worthOf_71)))))))))))
theorem m_X10_worthOf {E : mh_E} {d mc ms : Nat} {args : List Value} {h : mh_H} {Post : Option Value → mh_H → Prop} (lv : List (Option Value)) (hl : lv_args 0 args = mh_al 0 lv) (hs : (lg_sl args).length ≤ 3) (hG : q_X10_worthOf_0 (x_X10_worthOf E d mc ms Post) lv [] h 0 0) : mh_M E d mc ms yX10_worthOf args h Post := mh_M.of w_1277 (by decide) (by decide) hl hs (b_X10_worthOf_0 _ _ _ _ _ hG)
theorem dX10_told_0 : decode cX10_told 0 = .ok (.aload_n 0, 1) := by decide +kernel
theorem dX10_told_1 : decode cX10_told 1 = .ok (.iload_n 1, 1) := by decide +kernel
theorem dX10_told_2 : decode cX10_told 2 = .ok (.invokevirtual 122, 3) := by decide +kernel
theorem dX10_told_5 : decode cX10_told 5 = .ok (.ifCond .ne 6, 3) := by decide +kernel
theorem dX10_told_8 : decode cX10_told 8 = .ok (.ldc 91, 2) := by decide +kernel
theorem dX10_told_10 : decode cX10_told 10 = .ok (.ireturn, 1) := by decide +kernel
theorem dX10_told_11 : decode cX10_told 11 = .ok (.iload_n 2, 1) := by decide +kernel
theorem dX10_told_12 : decode cX10_told 12 = .ok (.tableswitch 106 0 8 #[52, 52, 52, 52, 52, 59, 80, 94, 100], 52) := by decide +kernel
theorem dX10_told_64 : decode cX10_told 64 = .ok (.aload_n 0, 1) := by decide +kernel
theorem dX10_told_65 : decode cX10_told 65 = .ok (.iload_n 1, 1) := by decide +kernel
theorem dX10_told_66 : decode cX10_told 66 = .ok (.iload_n 2, 1) := by decide +kernel
theorem dX10_told_67 : decode cX10_told 67 = .ok (.invokevirtual 104, 3) := by decide +kernel
theorem dX10_told_70 : decode cX10_told 70 = .ok (.ireturn, 1) := by decide +kernel
theorem dX10_told_71 : decode cX10_told 71 = .ok (.aload_n 0, 1) := by decide +kernel
theorem dX10_told_72 : decode cX10_told 72 = .ok (.iload_n 1, 1) := by decide +kernel
theorem dX10_told_73 : decode cX10_told 73 = .ok (.iconst 5, 1) := by decide +kernel
theorem dX10_told_74 : decode cX10_told 74 = .ok (.invokevirtual 104, 3) := by decide +kernel
theorem dX10_told_77 : decode cX10_told 77 = .ok (.ifCond .ge 8, 3) := by decide +kernel
theorem dX10_told_80 : decode cX10_told 80 = .ok (.ldc 126, 2) := by decide +kernel
theorem dX10_told_82 : decode cX10_told 82 = .ok (.goto 9, 3) := by decide +kernel
theorem dX10_told_85 : decode cX10_told 85 = .ok (.aload_n 0, 1) := by decide +kernel
theorem dX10_told_86 : decode cX10_told 86 = .ok (.iload_n 1, 1) := by decide +kernel
theorem dX10_told_87 : decode cX10_told 87 = .ok (.iconst 5, 1) := by decide +kernel
theorem dX10_told_88 : decode cX10_told 88 = .ok (.invokevirtual 104, 3) := by decide +kernel
theorem dX10_told_91 : decode cX10_told 91 = .ok (.ireturn, 1) := by decide +kernel
theorem dX10_told_92 : decode cX10_told 92 = .ok (.aload_n 0, 1) := by decide +kernel
theorem dX10_told_93 : decode cX10_told 93 = .ok (.iload_n 1, 1) := by decide +kernel
theorem dX10_told_94 : decode cX10_told 94 = .ok (.invokevirtual 127, 3) := by decide +kernel
theorem dX10_told_97 : decode cX10_told 97 = .ok (.ifCond .eq 7, 3) := by decide +kernel
theorem dX10_told_100 : decode cX10_told 100 = .ok (.iconst 1, 1) := by decide +kernel
theorem dX10_told_101 : decode cX10_told 101 = .ok (.goto 4, 3) := by decide +kernel
theorem dX10_told_104 : decode cX10_told 104 = .ok (.iconst 0, 1) := by decide +kernel
theorem dX10_told_105 : decode cX10_told 105 = .ok (.ireturn, 1) := by decide +kernel
theorem dX10_told_106 : decode cX10_told 106 = .ok (.aload_n 0, 1) := by decide +kernel
theorem dX10_told_107 : decode cX10_told 107 = .ok (.iload_n 1, 1) := by decide +kernel
theorem dX10_told_108 : decode cX10_told 108 = .ok (.invokevirtual 130, 3) := by decide +kernel
theorem dX10_told_111 : decode cX10_told 111 = .ok (.ireturn, 1) := by decide +kernel
theorem dX10_told_112 : decode cX10_told 112 = .ok (.aload_n 0, 1) := by decide +kernel
theorem dX10_told_113 : decode cX10_told 113 = .ok (.iload_n 1, 1) := by decide +kernel
theorem dX10_told_114 : decode cX10_told 114 = .ok (.invokevirtual 133, 3) := by decide +kernel
theorem dX10_told_117 : decode cX10_told 117 = .ok (.ireturn, 1) := by decide +kernel
theorem dX10_told_118 : decode cX10_told 118 = .ok (.ldc 91, 2) := by decide +kernel
theorem dX10_told_120 : decode cX10_told 120 = .ok (.ireturn, 1) := by decide +kernel
abbrev x_X10_told (E : mh_E) (d mc ms : Nat) (Post : Option Value → mh_H → Prop) : mh_X := (E, yX10_told, cX10_told, 3, (some .int), d, mc, ms, Post)
def q_X10_told_105 (X : mh_X) : mh_PR := s_iret X
theorem b_X10_told_105 {E : mh_E} {d mc ms : Nat} {Post : Option Value → mh_H → Prop} : mh_S (x_X10_told E d mc ms Post) 105 (q_X10_told_105 (x_X10_told E d mc ms Post)) := sn_iret rfl dX10_told_105
def q_X10_told_91 (X : mh_X) : mh_PR := s_iret X
theorem b_X10_told_91 {E : mh_E} {d mc ms : Nat} {Post : Option Value → mh_H → Prop} : mh_S (x_X10_told E d mc ms Post) 91 (q_X10_told_91 (x_X10_told E d mc ms Post)) := sn_iret rfl dX10_told_91
def q_X10_told_64 (X : mh_X) : mh_PR := s_al 0 (s_il 1 (s_il 2 (s_cv X yX10_of 10 2 (s_iret X))))
theorem b_X10_told_64 {E : mh_E} {d mc ms : Nat} {Post : Option Value → mh_H → Prop} : mh_S (x_X10_told E d mc ms Post) 64 (q_X10_told_64 (x_X10_told E d mc ms Post)) := sn_aload_n dX10_told_64 rfl (sn_iload_n dX10_told_65 rfl (sn_iload_n dX10_told_66 rfl (sn_cv w_1234 w_1236 w_24 w_66 rfl nm_X10_of dX10_told_67 (sn_iret rfl dX10_told_70))))
def q_X10_told_0 (X : mh_X) : mh_PR := s_al 0 (s_il 1 (s_cv X yX10_isStone 10 1 (s_if1 (fun x => ¬ x = 0) (s_il 2 (s_sw [((0 : Int32), q_X10_told_64 X), ((1 : Int32), q_X10_told_64 X), ((2 : Int32), q_X10_told_64 X), ((3 : Int32), q_X10_told_64 X), ((4 : Int32), q_X10_told_64 X), ((5 : Int32), s_al 0 (s_il 1 (s_push (.int (5)) (s_cv X yX10_of 10 2 (s_if1 (fun x => 0 ≤ x) (s_al 0 (s_il 1 (s_push (.int (5)) (s_cv X yX10_of 10 2 (q_X10_told_91 X))))) (s_push (.int (-1000000005)) (q_X10_told_91 X))))))), ((6 : Int32), s_al 0 (s_il 1 (s_cv X yX10_doesHold 10 1 (s_if1 (fun x => x = 0) (s_push (.int (0)) (q_X10_told_105 X)) (s_push (.int (1)) (q_X10_told_105 X)))))), ((7 : Int32), s_al 0 (s_il 1 (s_cv X yX10_keepsOf 10 1 (s_iret X)))), ((8 : Int32), s_al 0 (s_il 1 (s_cv X yX10_worthOf 10 1 (s_iret X))))] (s_push (.int (-1000000001)) (s_iret X)))) (s_push (.int (-1000000001)) (s_iret X)))))
theorem b_X10_told_0 {E : mh_E} {d mc ms : Nat} {Post : Option Value → mh_H → Prop} : mh_S (x_X10_told E d mc ms Post) 0 (q_X10_told_0 (x_X10_told E d mc ms Post)) := sn_aload_n dX10_told_0 rfl (sn_iload_n dX10_told_1 rfl (sn_cv w_1230 w_1232 w_23 w_66 rfl nm_X10_isStone dX10_told_2 (sn_if_ne (tgt := 11) dX10_told_5 (by decide) (sn_iload_n dX10_told_11 rfl (sn_table (tgt := 118) (ts := [(0, 52, 64), (1, 52, 64), (2, 52, 64), (3, 52, 64), (4, 52, 64), (5, 59, 71), (6, 80, 92), (7, 94, 106), (8, 100, 112)]) dX10_told_12 (by decide +kernel) (by decide +kernel) (sw_cons (b_X10_told_64) (sw_cons (b_X10_told_64) (sw_cons (b_X10_told_64) (sw_cons (b_X10_told_64) (sw_cons (b_X10_told_64) (sw_cons (sn_aload_n dX10_told_71 rfl (sn_iload_n dX10_told_72 rfl (sn_iconst dX10_told_73 (by decide) (sn_cv w_1234 w_1236 w_24 w_66 rfl nm_X10_of dX10_told_74 (sn_if_ge (tgt := 85) dX10_told_77 (by decide) (sn_aload_n dX10_told_85 rfl (sn_iload_n dX10_told_86 rfl (sn_iconst dX10_told_87 (by decide) (sn_cv w_1234 w_1236 w_24 w_66 rfl nm_X10_of dX10_told_88 b_X10_told_91)))) (sn_ldc dX10_told_80 w_1238 (sn_goto (tgt := 91) dX10_told_82 (by decide) (b_X10_told_91)))))))) (sw_cons (sn_aload_n dX10_told_92 rfl (sn_iload_n dX10_told_93 rfl (sn_cv w_1239 w_1241 w_25 w_66 rfl nm_X10_doesHold dX10_told_94 (sn_if_eq (tgt := 104) dX10_told_97 (by decide) (sn_iconst dX10_told_104 (by decide) b_X10_told_105) (sn_iconst dX10_told_100 (by decide) (sn_goto (tgt := 105) dX10_told_101 (by decide) (b_X10_told_105))))))) (sw_cons (sn_aload_n dX10_told_106 rfl (sn_iload_n dX10_told_107 rfl (sn_cv w_1255 w_1257 w_29 w_66 rfl nm_X10_keepsOf dX10_told_108 (sn_iret rfl dX10_told_111)))) (sw_cons (sn_aload_n dX10_told_112 rfl (sn_iload_n dX10_told_113 rfl (sn_cv w_1274 w_1276 w_32 w_66 rfl nm_X10_worthOf dX10_told_114 (sn_iret rfl dX10_told_117)))) sw_nil))))))))) (by decide) (sn_ldc dX10_told_118 w_1216 (sn_iret rfl dX10_told_120)))) (sn_ldc dX10_told_8 w_1216 (sn_iret rfl dX10_told_10)))))
theorem m_X10_told {E : mh_E} {d mc ms : Nat} {args : List Value} {h : mh_H} {Post : Option Value → mh_H → Prop} (lv : List (Option Value)) (hl : lv_args 0 args = mh_al 0 lv) (hs : (lg_sl args).length ≤ 3) (hG : q_X10_told_0 (x_X10_told E d mc ms Post) lv [] h 0 0) : mh_M E d mc ms yX10_told args h Post := mh_M.of w_1229 (by decide) (by decide) hl hs (b_X10_told_0 _ _ _ _ _ hG)
theorem dX10_turns_0 : decode cX10_turns 0 = .ok (.aload_n 0, 1) := by decide +kernel
theorem dX10_turns_1 : decode cX10_turns 1 = .ok (.iload_n 1, 1) := by decide +kernel
theorem dX10_turns_2 : decode cX10_turns 2 = .ok (.invokevirtual 122, 3) := by decide +kernel
theorem dX10_turns_5 : decode cX10_turns 5 = .ok (.ifCond .eq 27, 3) := by decide +kernel
theorem dX10_turns_8 : decode cX10_turns 8 = .ok (.iload_n 2, 1) := by decide +kernel
theorem dX10_turns_9 : decode cX10_turns 9 = .ok (.iconst 0, 1) := by decide +kernel
theorem dX10_turns_10 : decode cX10_turns 10 = .ok (.iconst 5, 1) := by decide +kernel
theorem dX10_turns_11 : decode cX10_turns 11 = .ok (.invokestatic 79, 3) := by decide +kernel
theorem dX10_turns_14 : decode cX10_turns 14 = .ok (.ifCond .eq 18, 3) := by decide +kernel
theorem dX10_turns_17 : decode cX10_turns 17 = .ok (.aload_n 0, 1) := by decide +kernel
theorem dX10_turns_18 : decode cX10_turns 18 = .ok (.bipush 20, 2) := by decide +kernel
theorem dX10_turns_20 : decode cX10_turns 20 = .ok (.bipush 6, 2) := by decide +kernel
theorem dX10_turns_22 : decode cX10_turns 22 = .ok (.iload_n 1, 1) := by decide +kernel
theorem dX10_turns_23 : decode cX10_turns 23 = .ok (.imul, 1) := by decide +kernel
theorem dX10_turns_24 : decode cX10_turns 24 = .ok (.iadd, 1) := by decide +kernel
theorem dX10_turns_25 : decode cX10_turns 25 = .ok (.iload_n 2, 1) := by decide +kernel
theorem dX10_turns_26 : decode cX10_turns 26 = .ok (.invokevirtual 140, 3) := by decide +kernel
theorem dX10_turns_29 : decode cX10_turns 29 = .ok (.goto 5, 3) := by decide +kernel
theorem dX10_turns_32 : decode cX10_turns 32 = .ok (.ldc 91, 2) := by decide +kernel
theorem dX10_turns_34 : decode cX10_turns 34 = .ok (.ireturn, 1) := by decide +kernel
abbrev x_X10_turns (E : mh_E) (d mc ms : Nat) (Post : Option Value → mh_H → Prop) : mh_X := (E, yX10_turns, cX10_turns, 3, (some .int), d, mc, ms, Post)
def q_X10_turns_34 (X : mh_X) : mh_PR := s_iret X
theorem b_X10_turns_34 {E : mh_E} {d mc ms : Nat} {Post : Option Value → mh_H → Prop} : mh_S (x_X10_turns E d mc ms Post) 34 (q_X10_turns_34 (x_X10_turns E d mc ms Post)) := sn_iret rfl dX10_turns_34
def q_X10_turns_32 (X : mh_X) : mh_PR := s_push (.int (-1000000001)) (q_X10_turns_34 X)
theorem b_X10_turns_32 {E : mh_E} {d mc ms : Nat} {Post : Option Value → mh_H → Prop} : mh_S (x_X10_turns E d mc ms Post) 32 (q_X10_turns_32 (x_X10_turns E d mc ms Post)) := sn_ldc dX10_turns_32 w_1216 b_X10_turns_34
def q_X10_turns_0 (X : mh_X) : mh_PR := s_al 0 (s_il 1 (s_cv X yX10_isStone 10 1 (s_if1 (fun x => x = 0) (q_X10_turns_32 X) (s_il 2 (s_push (.int (0)) (s_push (.int (5)) (s_cs X yX10_in 3 (s_if1 (fun x => x = 0) (q_X10_turns_32 X) (s_al 0 (s_push (.int (20)) (s_push (.int (6)) (s_il 1 (s_bin (fun x y => x * y) (s_bin (fun x y => x + y) (s_il 2 (s_cv X yX10_swaps 10 2 (q_X10_turns_34 X)))))))))))))))))
theorem b_X10_turns_0 {E : mh_E} {d mc ms : Nat} {Post : Option Value → mh_H → Prop} : mh_S (x_X10_turns E d mc ms Post) 0 (q_X10_turns_0 (x_X10_turns E d mc ms Post)) := sn_aload_n dX10_turns_0 rfl (sn_iload_n dX10_turns_1 rfl (sn_cv w_1230 w_1232 w_23 w_66 rfl nm_X10_isStone dX10_turns_2 (sn_if_eq (tgt := 32) dX10_turns_5 (by decide) (b_X10_turns_32) (sn_iload_n dX10_turns_8 rfl (sn_iconst dX10_turns_9 (by decide) (sn_iconst dX10_turns_10 (by decide) (sn_cs w_1210 w_1211 w_66 nm_X10_in dX10_turns_11 (sn_if_eq (tgt := 32) dX10_turns_14 (by decide) (b_X10_turns_32) (sn_aload_n dX10_turns_17 rfl (sn_bipush dX10_turns_18 (by decide) (sn_bipush dX10_turns_20 (by decide) (sn_iload_n dX10_turns_22 rfl (sn_imul dX10_turns_23 (sn_iadd dX10_turns_24 (sn_iload_n dX10_turns_25 rfl (sn_cv w_1290 w_1292 w_33 w_66 rfl nm_X10_swaps dX10_turns_26 (sn_goto (tgt := 34) dX10_turns_29 (by decide) (b_X10_turns_34))))))))))))))))))
theorem m_X10_turns {E : mh_E} {d mc ms : Nat} {args : List Value} {h : mh_H} {Post : Option Value → mh_H → Prop} (lv : List (Option Value)) (hl : lv_args 0 args = mh_al 0 lv) (hs : (lg_sl args).length ≤ 3) (hG : q_X10_turns_0 (x_X10_turns E d mc ms Post) lv [] h 0 0) : mh_M E d mc ms yX10_turns args h Post := mh_M.of w_1289 (by decide) (by decide) hl hs (b_X10_turns_0 _ _ _ _ _ hG)
theorem dX10_set_0 : decode cX10_set 0 = .ok (.aload_n 0, 1) := by decide +kernel
theorem dX10_set_1 : decode cX10_set 1 = .ok (.iload_n 1, 1) := by decide +kernel
theorem dX10_set_2 : decode cX10_set 2 = .ok (.invokevirtual 122, 3) := by decide +kernel
theorem dX10_set_5 : decode cX10_set 5 = .ok (.ifCond .eq 37, 3) := by decide +kernel
theorem dX10_set_8 : decode cX10_set 8 = .ok (.iload_n 2, 1) := by decide +kernel
theorem dX10_set_9 : decode cX10_set 9 = .ok (.iconst 1, 1) := by decide +kernel
theorem dX10_set_10 : decode cX10_set 10 = .ok (.iconst 4, 1) := by decide +kernel
theorem dX10_set_11 : decode cX10_set 11 = .ok (.invokestatic 79, 3) := by decide +kernel
theorem dX10_set_14 : decode cX10_set 14 = .ok (.ifCond .eq 28, 3) := by decide +kernel
theorem dX10_set_17 : decode cX10_set 17 = .ok (.iload_n 2, 1) := by decide +kernel
theorem dX10_set_18 : decode cX10_set 18 = .ok (.iload_n 3, 1) := by decide +kernel
theorem dX10_set_19 : decode cX10_set 19 = .ok (.invokestatic 87, 3) := by decide +kernel
theorem dX10_set_22 : decode cX10_set 22 = .ok (.ifCond .eq 20, 3) := by decide +kernel
theorem dX10_set_25 : decode cX10_set 25 = .ok (.aload_n 0, 1) := by decide +kernel
theorem dX10_set_26 : decode cX10_set 26 = .ok (.bipush 20, 2) := by decide +kernel
theorem dX10_set_28 : decode cX10_set 28 = .ok (.bipush 6, 2) := by decide +kernel
theorem dX10_set_30 : decode cX10_set 30 = .ok (.iload_n 1, 1) := by decide +kernel
theorem dX10_set_31 : decode cX10_set 31 = .ok (.imul, 1) := by decide +kernel
theorem dX10_set_32 : decode cX10_set 32 = .ok (.iadd, 1) := by decide +kernel
theorem dX10_set_33 : decode cX10_set 33 = .ok (.iload_n 2, 1) := by decide +kernel
theorem dX10_set_34 : decode cX10_set 34 = .ok (.iadd, 1) := by decide +kernel
theorem dX10_set_35 : decode cX10_set 35 = .ok (.iload_n 3, 1) := by decide +kernel
theorem dX10_set_36 : decode cX10_set 36 = .ok (.invokevirtual 140, 3) := by decide +kernel
theorem dX10_set_39 : decode cX10_set 39 = .ok (.goto 5, 3) := by decide +kernel
theorem dX10_set_42 : decode cX10_set 42 = .ok (.ldc 91, 2) := by decide +kernel
theorem dX10_set_44 : decode cX10_set 44 = .ok (.ireturn, 1) := by decide +kernel
abbrev x_X10_set (E : mh_E) (d mc ms : Nat) (Post : Option Value → mh_H → Prop) : mh_X := (E, yX10_set, cX10_set, 4, (some .int), d, mc, ms, Post)
def q_X10_set_44 (X : mh_X) : mh_PR := s_iret X
theorem b_X10_set_44 {E : mh_E} {d mc ms : Nat} {Post : Option Value → mh_H → Prop} : mh_S (x_X10_set E d mc ms Post) 44 (q_X10_set_44 (x_X10_set E d mc ms Post)) := sn_iret rfl dX10_set_44
def q_X10_set_42 (X : mh_X) : mh_PR := s_push (.int (-1000000001)) (q_X10_set_44 X)
theorem b_X10_set_42 {E : mh_E} {d mc ms : Nat} {Post : Option Value → mh_H → Prop} : mh_S (x_X10_set E d mc ms Post) 42 (q_X10_set_42 (x_X10_set E d mc ms Post)) := sn_ldc dX10_set_42 w_1216 b_X10_set_44
def q_X10_set_0 (X : mh_X) : mh_PR := s_al 0 (s_il 1 (s_cv X yX10_isStone 10 1 (s_if1 (fun x => x = 0) (q_X10_set_42 X) (s_il 2 (s_push (.int (1)) (s_push (.int (4)) (s_cs X yX10_in 3 (s_if1 (fun x => x = 0) (q_X10_set_42 X) (s_il 2 (s_il 3 (s_cs X yX10_isOf 2 (s_if1 (fun x => x = 0) (q_X10_set_42 X) (s_al 0 (s_push (.int (20)) (s_push (.int (6)) (s_il 1 (s_bin (fun x y => x * y) (s_bin (fun x y => x + y) (s_il 2 (s_bin (fun x y => x + y) (s_il 3 (s_cv X yX10_swaps 10 2 (q_X10_set_44 X)))))))))))))))))))))))
theorem b_X10_set_0 {E : mh_E} {d mc ms : Nat} {Post : Option Value → mh_H → Prop} : mh_S (x_X10_set E d mc ms Post) 0 (q_X10_set_0 (x_X10_set E d mc ms Post)) := sn_aload_n dX10_set_0 rfl (sn_iload_n dX10_set_1 rfl (sn_cv w_1230 w_1232 w_23 w_66 rfl nm_X10_isStone dX10_set_2 (sn_if_eq (tgt := 42) dX10_set_5 (by decide) (b_X10_set_42) (sn_iload_n dX10_set_8 rfl (sn_iconst dX10_set_9 (by decide) (sn_iconst dX10_set_10 (by decide) (sn_cs w_1210 w_1211 w_66 nm_X10_in dX10_set_11 (sn_if_eq (tgt := 42) dX10_set_14 (by decide) (b_X10_set_42) (sn_iload_n dX10_set_17 rfl (sn_iload_n dX10_set_18 rfl (sn_cs w_1213 w_1214 w_66 nm_X10_isOf dX10_set_19 (sn_if_eq (tgt := 42) dX10_set_22 (by decide) (b_X10_set_42) (sn_aload_n dX10_set_25 rfl (sn_bipush dX10_set_26 (by decide) (sn_bipush dX10_set_28 (by decide) (sn_iload_n dX10_set_30 rfl (sn_imul dX10_set_31 (sn_iadd dX10_set_32 (sn_iload_n dX10_set_33 rfl (sn_iadd dX10_set_34 (sn_iload_n dX10_set_35 rfl (sn_cv w_1290 w_1292 w_33 w_66 rfl nm_X10_swaps dX10_set_36 (sn_goto (tgt := 44) dX10_set_39 (by decide) (b_X10_set_44))))))))))))))))))))))))
theorem m_X10_set {E : mh_E} {d mc ms : Nat} {args : List Value} {h : mh_H} {Post : Option Value → mh_H → Prop} (lv : List (Option Value)) (hl : lv_args 0 args = mh_al 0 lv) (hs : (lg_sl args).length ≤ 4) (hG : q_X10_set_0 (x_X10_set E d mc ms Post) lv [] h 0 0) : mh_M E d mc ms yX10_set args h Post := mh_M.of w_1297 (by decide) (by decide) hl hs (b_X10_set_0 _ _ _ _ _ hG)
theorem dX10_undone_0 : decode cX10_undone 0 = .ok (.aload_n 0, 1) := by decide +kernel
theorem dX10_undone_1 : decode cX10_undone 1 = .ok (.iload_n 1, 1) := by decide +kernel
theorem dX10_undone_2 : decode cX10_undone 2 = .ok (.invokevirtual 122, 3) := by decide +kernel
theorem dX10_undone_5 : decode cX10_undone 5 = .ok (.ifCond .ne 6, 3) := by decide +kernel
theorem dX10_undone_8 : decode cX10_undone 8 = .ok (.ldc 91, 2) := by decide +kernel
theorem dX10_undone_10 : decode cX10_undone 10 = .ok (.ireturn, 1) := by decide +kernel
theorem dX10_undone_11 : decode cX10_undone 11 = .ok (.aload_n 0, 1) := by decide +kernel
theorem dX10_undone_12 : decode cX10_undone 12 = .ok (.bipush 20, 2) := by decide +kernel
theorem dX10_undone_14 : decode cX10_undone 14 = .ok (.bipush 6, 2) := by decide +kernel
theorem dX10_undone_16 : decode cX10_undone 16 = .ok (.iload_n 1, 1) := by decide +kernel
theorem dX10_undone_17 : decode cX10_undone 17 = .ok (.imul, 1) := by decide +kernel
theorem dX10_undone_18 : decode cX10_undone 18 = .ok (.iadd, 1) := by decide +kernel
theorem dX10_undone_19 : decode cX10_undone 19 = .ok (.iconst 5, 1) := by decide +kernel
theorem dX10_undone_20 : decode cX10_undone 20 = .ok (.iadd, 1) := by decide +kernel
theorem dX10_undone_21 : decode cX10_undone 21 = .ok (.iconst (-1), 1) := by decide +kernel
theorem dX10_undone_22 : decode cX10_undone 22 = .ok (.invokevirtual 140, 3) := by decide +kernel
theorem dX10_undone_25 : decode cX10_undone 25 = .ok (.ifCond .ge 8, 3) := by decide +kernel
theorem dX10_undone_28 : decode cX10_undone 28 = .ok (.ldc 143, 2) := by decide +kernel
theorem dX10_undone_30 : decode cX10_undone 30 = .ok (.goto 4, 3) := by decide +kernel
theorem dX10_undone_33 : decode cX10_undone 33 = .ok (.iconst 1, 1) := by decide +kernel
theorem dX10_undone_34 : decode cX10_undone 34 = .ok (.ireturn, 1) := by decide +kernel
abbrev x_X10_undone (E : mh_E) (d mc ms : Nat) (Post : Option Value → mh_H → Prop) : mh_X := (E, yX10_undone, cX10_undone, 2, (some .int), d, mc, ms, Post)
def q_X10_undone_34 (X : mh_X) : mh_PR := s_iret X
theorem b_X10_undone_34 {E : mh_E} {d mc ms : Nat} {Post : Option Value → mh_H → Prop} : mh_S (x_X10_undone E d mc ms Post) 34 (q_X10_undone_34 (x_X10_undone E d mc ms Post)) := sn_iret rfl dX10_undone_34
def q_X10_undone_0 (X : mh_X) : mh_PR := s_al 0 (s_il 1 (s_cv X yX10_isStone 10 1 (s_if1 (fun x => ¬ x = 0) (s_al 0 (s_push (.int (20)) (s_push (.int (6)) (s_il 1 (s_bin (fun x y => x * y) (s_bin (fun x y => x + y) (s_push (.int (5)) (s_bin (fun x y => x + y) (s_push (.int (-1)) (s_cv X yX10_swaps 10 2 (s_if1 (fun x => 0 ≤ x) (s_push (.int (1)) (q_X10_undone_34 X)) (s_push (.int (-1000000002)) (q_X10_undone_34 X))))))))))))) (s_push (.int (-1000000001)) (s_iret X)))))
theorem b_X10_undone_0 {E : mh_E} {d mc ms : Nat} {Post : Option Value → mh_H → Prop} : mh_S (x_X10_undone E d mc ms Post) 0 (q_X10_undone_0 (x_X10_undone E d mc ms Post)) := sn_aload_n dX10_undone_0 rfl (sn_iload_n dX10_undone_1 rfl (sn_cv w_1230 w_1232 w_23 w_66 rfl nm_X10_isStone dX10_undone_2 (sn_if_ne (tgt := 11) dX10_undone_5 (by decide) (sn_aload_n dX10_undone_11 rfl (sn_bipush dX10_undone_12 (by decide) (sn_bipush dX10_undone_14 (by decide) (sn_iload_n dX10_undone_16 rfl (sn_imul dX10_undone_17 (sn_iadd dX10_undone_18 (sn_iconst dX10_undone_19 (by decide) (sn_iadd dX10_undone_20 (sn_iconst dX10_undone_21 (by decide) (sn_cv w_1290 w_1292 w_33 w_66 rfl nm_X10_swaps dX10_undone_22 (sn_if_ge (tgt := 33) dX10_undone_25 (by decide) (sn_iconst dX10_undone_33 (by decide) b_X10_undone_34) (sn_ldc dX10_undone_28 w_1302 (sn_goto (tgt := 34) dX10_undone_30 (by decide) (b_X10_undone_34)))))))))))))) (sn_ldc dX10_undone_8 w_1216 (sn_iret rfl dX10_undone_10)))))
theorem m_X10_undone {E : mh_E} {d mc ms : Nat} {args : List Value} {h : mh_H} {Post : Option Value → mh_H → Prop} (lv : List (Option Value)) (hl : lv_args 0 args = mh_al 0 lv) (hs : (lg_sl args).length ≤ 2) (hG : q_X10_undone_0 (x_X10_undone E d mc ms Post) lv [] h 0 0) : mh_M E d mc ms yX10_undone args h Post := mh_M.of w_1301 (by decide) (by decide) hl hs (b_X10_undone_0 _ _ _ _ _ hG)
theorem dX10_sends_0 : decode cX10_sends 0 = .ok (.iload_n 1, 1) := by decide +kernel
theorem dX10_sends_1 : decode cX10_sends 1 = .ok (.invokestatic 144, 3) := by decide +kernel
theorem dX10_sends_4 : decode cX10_sends 4 = .ok (.ifCond .eq 46, 3) := by decide +kernel
theorem dX10_sends_7 : decode cX10_sends 7 = .ok (.iload_n 2, 1) := by decide +kernel
theorem dX10_sends_8 : decode cX10_sends 8 = .ok (.iconst 0, 1) := by decide +kernel
theorem dX10_sends_9 : decode cX10_sends 9 = .ok (.iconst 1, 1) := by decide +kernel
theorem dX10_sends_10 : decode cX10_sends 10 = .ok (.invokestatic 79, 3) := by decide +kernel
theorem dX10_sends_13 : decode cX10_sends 13 = .ok (.ifCond .eq 37, 3) := by decide +kernel
theorem dX10_sends_16 : decode cX10_sends 16 = .ok (.iload_n 3, 1) := by decide +kernel
theorem dX10_sends_17 : decode cX10_sends 17 = .ok (.iconst 0, 1) := by decide +kernel
theorem dX10_sends_18 : decode cX10_sends 18 = .ok (.iload_n 2, 1) := by decide +kernel
theorem dX10_sends_19 : decode cX10_sends 19 = .ok (.ifCond .ne 7, 3) := by decide +kernel
theorem dX10_sends_22 : decode cX10_sends 22 = .ok (.iconst 3, 1) := by decide +kernel
theorem dX10_sends_23 : decode cX10_sends 23 = .ok (.goto 5, 3) := by decide +kernel
theorem dX10_sends_26 : decode cX10_sends 26 = .ok (.bipush 9, 2) := by decide +kernel
theorem dX10_sends_28 : decode cX10_sends 28 = .ok (.invokestatic 79, 3) := by decide +kernel
theorem dX10_sends_31 : decode cX10_sends 31 = .ok (.ifCond .eq 19, 3) := by decide +kernel
theorem dX10_sends_34 : decode cX10_sends 34 = .ok (.aload_n 0, 1) := by decide +kernel
theorem dX10_sends_35 : decode cX10_sends 35 = .ok (.bipush 8, 2) := by decide +kernel
theorem dX10_sends_37 : decode cX10_sends 37 = .ok (.iconst 2, 1) := by decide +kernel
theorem dX10_sends_38 : decode cX10_sends 38 = .ok (.iload_n 1, 1) := by decide +kernel
theorem dX10_sends_39 : decode cX10_sends 39 = .ok (.imul, 1) := by decide +kernel
theorem dX10_sends_40 : decode cX10_sends 40 = .ok (.iadd, 1) := by decide +kernel
theorem dX10_sends_41 : decode cX10_sends 41 = .ok (.iload_n 2, 1) := by decide +kernel
theorem dX10_sends_42 : decode cX10_sends 42 = .ok (.iadd, 1) := by decide +kernel
theorem dX10_sends_43 : decode cX10_sends 43 = .ok (.iload_n 3, 1) := by decide +kernel
theorem dX10_sends_44 : decode cX10_sends 44 = .ok (.invokevirtual 140, 3) := by decide +kernel
theorem dX10_sends_47 : decode cX10_sends 47 = .ok (.goto 5, 3) := by decide +kernel
theorem dX10_sends_50 : decode cX10_sends 50 = .ok (.ldc 91, 2) := by decide +kernel
theorem dX10_sends_52 : decode cX10_sends 52 = .ok (.ireturn, 1) := by decide +kernel
abbrev x_X10_sends (E : mh_E) (d mc ms : Nat) (Post : Option Value → mh_H → Prop) : mh_X := (E, yX10_sends, cX10_sends, 4, (some .int), d, mc, ms, Post)
def q_X10_sends_52 (X : mh_X) : mh_PR := s_iret X
theorem b_X10_sends_52 {E : mh_E} {d mc ms : Nat} {Post : Option Value → mh_H → Prop} : mh_S (x_X10_sends E d mc ms Post) 52 (q_X10_sends_52 (x_X10_sends E d mc ms Post)) := sn_iret rfl dX10_sends_52
def q_X10_sends_50 (X : mh_X) : mh_PR := s_push (.int (-1000000001)) (q_X10_sends_52 X)
theorem b_X10_sends_50 {E : mh_E} {d mc ms : Nat} {Post : Option Value → mh_H → Prop} : mh_S (x_X10_sends E d mc ms Post) 50 (q_X10_sends_50 (x_X10_sends E d mc ms Post)) := sn_ldc dX10_sends_50 w_1216 b_X10_sends_52
def q_X10_sends_28 (X : mh_X) : mh_PR := s_cs X yX10_in 3 (s_if1 (fun x => x = 0) (q_X10_sends_50 X) (s_al 0 (s_push (.int (8)) (s_push (.int (2)) (s_il 1 (s_bin (fun x y => x * y) (s_bin (fun x y => x + y) (s_il 2 (s_bin (fun x y => x + y) (s_il 3 (s_cv X yX10_swaps 10 2 (q_X10_sends_52 X))))))))))))
theorem b_X10_sends_28 {E : mh_E} {d mc ms : Nat} {Post : Option Value → mh_H → Prop} : mh_S (x_X10_sends E d mc ms Post) 28 (q_X10_sends_28 (x_X10_sends E d mc ms Post)) := sn_cs w_1210 w_1211 w_66 nm_X10_in dX10_sends_28 (sn_if_eq (tgt := 50) dX10_sends_31 (by decide) (b_X10_sends_50) (sn_aload_n dX10_sends_34 rfl (sn_bipush dX10_sends_35 (by decide) (sn_iconst dX10_sends_37 (by decide) (sn_iload_n dX10_sends_38 rfl (sn_imul dX10_sends_39 (sn_iadd dX10_sends_40 (sn_iload_n dX10_sends_41 rfl (sn_iadd dX10_sends_42 (sn_iload_n dX10_sends_43 rfl (sn_cv w_1290 w_1292 w_33 w_66 rfl nm_X10_swaps dX10_sends_44 (sn_goto (tgt := 52) dX10_sends_47 (by decide) (b_X10_sends_52)))))))))))))
def q_X10_sends_0 (X : mh_X) : mh_PR := s_il 1 (s_cs X yX10_isPerson 1 (s_if1 (fun x => x = 0) (q_X10_sends_50 X) (s_il 2 (s_push (.int (0)) (s_push (.int (1)) (s_cs X yX10_in 3 (s_if1 (fun x => x = 0) (q_X10_sends_50 X) (s_il 3 (s_push (.int (0)) (s_il 2 (s_if1 (fun x => ¬ x = 0) (s_push (.int (9)) (q_X10_sends_28 X)) (s_push (.int (3)) (q_X10_sends_28 X)))))))))))))
theorem b_X10_sends_0 {E : mh_E} {d mc ms : Nat} {Post : Option Value → mh_H → Prop} : mh_S (x_X10_sends E d mc ms Post) 0 (q_X10_sends_0 (x_X10_sends E d mc ms Post)) := sn_iload_n dX10_sends_0 rfl (sn_cs w_1307 w_1308 w_66 nm_X10_isPerson dX10_sends_1 (sn_if_eq (tgt := 50) dX10_sends_4 (by decide) (b_X10_sends_50) (sn_iload_n dX10_sends_7 rfl (sn_iconst dX10_sends_8 (by decide) (sn_iconst dX10_sends_9 (by decide) (sn_cs w_1210 w_1211 w_66 nm_X10_in dX10_sends_10 (sn_if_eq (tgt := 50) dX10_sends_13 (by decide) (b_X10_sends_50) (sn_iload_n dX10_sends_16 rfl (sn_iconst dX10_sends_17 (by decide) (sn_iload_n dX10_sends_18 rfl (sn_if_ne (tgt := 26) dX10_sends_19 (by decide) (sn_bipush dX10_sends_26 (by decide) b_X10_sends_28) (sn_iconst dX10_sends_22 (by decide) (sn_goto (tgt := 28) dX10_sends_23 (by decide) (b_X10_sends_28))))))))))))))
theorem m_X10_sends {E : mh_E} {d mc ms : Nat} {args : List Value} {h : mh_H} {Post : Option Value → mh_H → Prop} (lv : List (Option Value)) (hl : lv_args 0 args = mh_al 0 lv) (hs : (lg_sl args).length ≤ 4) (hG : q_X10_sends_0 (x_X10_sends E d mc ms Post) lv [] h 0 0) : mh_M E d mc ms yX10_sends args h Post := mh_M.of w_1313 (by decide) (by decide) hl hs (b_X10_sends_0 _ _ _ _ _ hG)
theorem dX10_seed_0 : decode cX10_seed 0 = .ok (.aload_n 0, 1) := by decide +kernel
theorem dX10_seed_1 : decode cX10_seed 1 = .ok (.iconst 0, 1) := by decide +kernel
theorem dX10_seed_2 : decode cX10_seed 2 = .ok (.iload_n 1, 1) := by decide +kernel
theorem dX10_seed_3 : decode cX10_seed 3 = .ok (.invokevirtual 140, 3) := by decide +kernel
theorem dX10_seed_6 : decode cX10_seed 6 = .ok (.ireturn, 1) := by decide +kernel
abbrev x_X10_seed (E : mh_E) (d mc ms : Nat) (Post : Option Value → mh_H → Prop) : mh_X := (E, yX10_seed, cX10_seed, 2, (some .int), d, mc, ms, Post)
def q_X10_seed_0 (X : mh_X) : mh_PR := s_al 0 (s_push (.int (0)) (s_il 1 (s_cv X yX10_swaps 10 2 (s_iret X))))
theorem b_X10_seed_0 {E : mh_E} {d mc ms : Nat} {Post : Option Value → mh_H → Prop} : mh_S (x_X10_seed E d mc ms Post) 0 (q_X10_seed_0 (x_X10_seed E d mc ms Post)) := sn_aload_n dX10_seed_0 rfl (sn_iconst dX10_seed_1 (by decide) (sn_iload_n dX10_seed_2 rfl (sn_cv w_1290 w_1292 w_33 w_66 rfl nm_X10_swaps dX10_seed_3 (sn_iret rfl dX10_seed_6))))
theorem m_X10_seed {E : mh_E} {d mc ms : Nat} {args : List Value} {h : mh_H} {Post : Option Value → mh_H → Prop} (lv : List (Option Value)) (hl : lv_args 0 args = mh_al 0 lv) (hs : (lg_sl args).length ≤ 2) (hG : q_X10_seed_0 (x_X10_seed E d mc ms Post) lv [] h 0 0) : mh_M E d mc ms yX10_seed args h Post := mh_M.of w_1334 (by decide) (by decide) hl hs (b_X10_seed_0 _ _ _ _ _ hG)
theorem dX10_year_0 : decode cX10_year 0 = .ok (.aload_n 0, 1) := by decide +kernel
theorem dX10_year_1 : decode cX10_year 1 = .ok (.invokevirtual 148, 3) := by decide +kernel
theorem dX10_year_4 : decode cX10_year 4 = .ok (.bipush 100, 2) := by decide +kernel
theorem dX10_year_6 : decode cX10_year 6 = .ok (.irem, 1) := by decide +kernel
theorem dX10_year_7 : decode cX10_year 7 = .ok (.aload_n 0, 1) := by decide +kernel
theorem dX10_year_8 : decode cX10_year 8 = .ok (.getfield 9, 3) := by decide +kernel
theorem dX10_year_11 : decode cX10_year 11 = .ok (.iconst 3, 1) := by decide +kernel
theorem dX10_year_12 : decode cX10_year 12 = .ok (.iaload, 1) := by decide +kernel
theorem dX10_year_13 : decode cX10_year 13 = .ok (.if_icmp .ge 28, 3) := by decide +kernel
theorem dX10_year_16 : decode cX10_year 16 = .ok (.aload_n 0, 1) := by decide +kernel
theorem dX10_year_17 : decode cX10_year 17 = .ok (.invokevirtual 148, 3) := by decide +kernel
theorem dX10_year_20 : decode cX10_year 20 = .ok (.bipush 6, 2) := by decide +kernel
theorem dX10_year_22 : decode cX10_year 22 = .ok (.irem, 1) := by decide +kernel
theorem dX10_year_23 : decode cX10_year 23 = .ok (.istore_n 1, 1) := by decide +kernel
theorem dX10_year_24 : decode cX10_year 24 = .ok (.aload_n 0, 1) := by decide +kernel
theorem dX10_year_25 : decode cX10_year 25 = .ok (.getfield 9, 3) := by decide +kernel
theorem dX10_year_28 : decode cX10_year 28 = .ok (.bipush 8, 2) := by decide +kernel
theorem dX10_year_30 : decode cX10_year 30 = .ok (.iconst 2, 1) := by decide +kernel
theorem dX10_year_31 : decode cX10_year 31 = .ok (.iload_n 1, 1) := by decide +kernel
theorem dX10_year_32 : decode cX10_year 32 = .ok (.imul, 1) := by decide +kernel
theorem dX10_year_33 : decode cX10_year 33 = .ok (.iadd, 1) := by decide +kernel
theorem dX10_year_34 : decode cX10_year 34 = .ok (.aload_n 0, 1) := by decide +kernel
theorem dX10_year_35 : decode cX10_year 35 = .ok (.invokevirtual 148, 3) := by decide +kernel
theorem dX10_year_38 : decode cX10_year 38 = .ok (.iconst 4, 1) := by decide +kernel
theorem dX10_year_39 : decode cX10_year 39 = .ok (.irem, 1) := by decide +kernel
theorem dX10_year_40 : decode cX10_year 40 = .ok (.iastore, 1) := by decide +kernel
theorem dX10_year_41 : decode cX10_year 41 = .ok (.aload_n 0, 1) := by decide +kernel
theorem dX10_year_42 : decode cX10_year 42 = .ok (.invokevirtual 148, 3) := by decide +kernel
theorem dX10_year_45 : decode cX10_year 45 = .ok (.bipush 100, 2) := by decide +kernel
theorem dX10_year_47 : decode cX10_year 47 = .ok (.irem, 1) := by decide +kernel
theorem dX10_year_48 : decode cX10_year 48 = .ok (.aload_n 0, 1) := by decide +kernel
theorem dX10_year_49 : decode cX10_year 49 = .ok (.getfield 9, 3) := by decide +kernel
theorem dX10_year_52 : decode cX10_year 52 = .ok (.iconst 4, 1) := by decide +kernel
theorem dX10_year_53 : decode cX10_year 53 = .ok (.iaload, 1) := by decide +kernel
theorem dX10_year_54 : decode cX10_year 54 = .ok (.if_icmp .ge 34, 3) := by decide +kernel
theorem dX10_year_57 : decode cX10_year 57 = .ok (.aload_n 0, 1) := by decide +kernel
theorem dX10_year_58 : decode cX10_year 58 = .ok (.invokevirtual 148, 3) := by decide +kernel
theorem dX10_year_61 : decode cX10_year 61 = .ok (.bipush 6, 2) := by decide +kernel
theorem dX10_year_63 : decode cX10_year 63 = .ok (.irem, 1) := by decide +kernel
theorem dX10_year_64 : decode cX10_year 64 = .ok (.istore_n 1, 1) := by decide +kernel
theorem dX10_year_65 : decode cX10_year 65 = .ok (.aload_n 0, 1) := by decide +kernel
theorem dX10_year_66 : decode cX10_year 66 = .ok (.getfield 9, 3) := by decide +kernel
theorem dX10_year_69 : decode cX10_year 69 = .ok (.bipush 8, 2) := by decide +kernel
theorem dX10_year_71 : decode cX10_year 71 = .ok (.iconst 2, 1) := by decide +kernel
theorem dX10_year_72 : decode cX10_year 72 = .ok (.iload_n 1, 1) := by decide +kernel
theorem dX10_year_73 : decode cX10_year 73 = .ok (.imul, 1) := by decide +kernel
theorem dX10_year_74 : decode cX10_year 74 = .ok (.iadd, 1) := by decide +kernel
theorem dX10_year_75 : decode cX10_year 75 = .ok (.iconst 1, 1) := by decide +kernel
theorem dX10_year_76 : decode cX10_year 76 = .ok (.iadd, 1) := by decide +kernel
theorem dX10_year_77 : decode cX10_year 77 = .ok (.aload_n 0, 1) := by decide +kernel
theorem dX10_year_78 : decode cX10_year 78 = .ok (.iload_n 1, 1) := by decide +kernel
theorem dX10_year_79 : decode cX10_year 79 = .ok (.invokevirtual 101, 3) := by decide +kernel
theorem dX10_year_82 : decode cX10_year 82 = .ok (.iconst 1, 1) := by decide +kernel
theorem dX10_year_83 : decode cX10_year 83 = .ok (.iadd, 1) := by decide +kernel
theorem dX10_year_84 : decode cX10_year 84 = .ok (.bipush 10, 2) := by decide +kernel
theorem dX10_year_86 : decode cX10_year 86 = .ok (.irem, 1) := by decide +kernel
theorem dX10_year_87 : decode cX10_year 87 = .ok (.iastore, 1) := by decide +kernel
theorem dX10_year_88 : decode cX10_year 88 = .ok (.iconst 0, 1) := by decide +kernel
theorem dX10_year_89 : decode cX10_year 89 = .ok (.istore_n 1, 1) := by decide +kernel
theorem dX10_year_90 : decode cX10_year 90 = .ok (.iload_n 1, 1) := by decide +kernel
theorem dX10_year_91 : decode cX10_year 91 = .ok (.aload_n 0, 1) := by decide +kernel
theorem dX10_year_92 : decode cX10_year 92 = .ok (.getfield 9, 3) := by decide +kernel
theorem dX10_year_95 : decode cX10_year 95 = .ok (.iconst 1, 1) := by decide +kernel
theorem dX10_year_96 : decode cX10_year 96 = .ok (.iaload, 1) := by decide +kernel
theorem dX10_year_97 : decode cX10_year 97 = .ok (.if_icmp .ge 23, 3) := by decide +kernel
theorem dX10_year_100 : decode cX10_year 100 = .ok (.aload_n 0, 1) := by decide +kernel
theorem dX10_year_101 : decode cX10_year 101 = .ok (.iload_n 1, 1) := by decide +kernel
theorem dX10_year_102 : decode cX10_year 102 = .ok (.iconst 5, 1) := by decide +kernel
theorem dX10_year_103 : decode cX10_year 103 = .ok (.invokevirtual 104, 3) := by decide +kernel
theorem dX10_year_106 : decode cX10_year 106 = .ok (.ifCond .ge 8, 3) := by decide +kernel
theorem dX10_year_109 : decode cX10_year 109 = .ok (.aload_n 0, 1) := by decide +kernel
theorem dX10_year_110 : decode cX10_year 110 = .ok (.iload_n 1, 1) := by decide +kernel
theorem dX10_year_111 : decode cX10_year 111 = .ok (.invokevirtual 152, 3) := by decide +kernel
theorem dX10_year_114 : decode cX10_year 114 = .ok (.iinc 1 1, 3) := by decide +kernel
theorem dX10_year_117 : decode cX10_year 117 = .ok (.goto (-27), 3) := by decide +kernel
theorem dX10_year_120 : decode cX10_year 120 = .ok (.aload_n 0, 1) := by decide +kernel
theorem dX10_year_121 : decode cX10_year 121 = .ok (.getfield 9, 3) := by decide +kernel
theorem dX10_year_124 : decode cX10_year 124 = .ok (.iconst 2, 1) := by decide +kernel
theorem dX10_year_125 : decode cX10_year 125 = .ok (.dup2, 1) := by decide +kernel
theorem dX10_year_126 : decode cX10_year 126 = .ok (.iaload, 1) := by decide +kernel
theorem dX10_year_127 : decode cX10_year 127 = .ok (.iconst 1, 1) := by decide +kernel
theorem dX10_year_128 : decode cX10_year 128 = .ok (.iadd, 1) := by decide +kernel
theorem dX10_year_129 : decode cX10_year 129 = .ok (.iastore, 1) := by decide +kernel
theorem dX10_year_130 : decode cX10_year 130 = .ok (.return_, 1) := by decide +kernel
abbrev x_X10_year (E : mh_E) (d mc ms : Nat) (Post : Option Value → mh_H → Prop) : mh_X := (E, yX10_year, cX10_year, 2, none, d, mc, ms, Post)
def q_X10_year_114 (X : mh_X) : mh_PR := s_inc 1 (1) (mh_G X 90)
theorem b_X10_year_114 {E : mh_E} {d mc ms : Nat} {Post : Option Value → mh_H → Prop} : mh_S (x_X10_year E d mc ms Post) 114 (q_X10_year_114 (x_X10_year E d mc ms Post)) := sn_iinc dX10_year_114 (by decide) (Nat.le_of_ble_eq_true rfl) (sn_goto (tgt := 90) dX10_year_117 (by decide) (mh_S.G))
def q_X10_year_90 (X : mh_X) : mh_PR := s_il 1 (s_al 0 (s_gr 10 0 (s_push (.int (1)) (s_ald 0 (s_if2 (fun x y => y ≤ x) (s_al 0 (s_gr 10 0 (s_push (.int (2)) (s_dup2 (s_ald 0 (s_push (.int (1)) (s_bin (fun x y => x + y) (s_ast 0 (fun x => x) (s_vret X))))))))) (s_al 0 (s_il 1 (s_push (.int (5)) (s_cv X yX10_of 10 2 (s_if1 (fun x => 0 ≤ x) (q_X10_year_114 X) (s_al 0 (s_il 1 (s_cv X yX10_passes 10 1 (q_X10_year_114 X))))))))))))))
theorem b_X10_year_90 {E : mh_E} {d mc ms : Nat} {Post : Option Value → mh_H → Prop} : mh_S (x_X10_year E d mc ms Post) 90 (q_X10_year_90 (x_X10_year E d mc ms Post)) := sn_iload_n dX10_year_90 rfl (sn_aload_n dX10_year_91 rfl (sn_getr clX10 (by decide) w_1100 dX10_year_92 (sn_iconst dX10_year_95 (by decide) (sn_iaload dX10_year_96 (sn_icmp_ge (tgt := 120) dX10_year_97 (by decide) (sn_aload_n dX10_year_120 rfl (sn_getr clX10 (by decide) w_1100 dX10_year_121 (sn_iconst dX10_year_124 (by decide) (sn_dup2 dX10_year_125 (sn_iaload dX10_year_126 (sn_iconst dX10_year_127 (by decide) (sn_iadd dX10_year_128 (sn_iastore dX10_year_129 (sn_vret rfl dX10_year_130))))))))) (sn_aload_n dX10_year_100 rfl (sn_iload_n dX10_year_101 rfl (sn_iconst dX10_year_102 (by decide) (sn_cv w_1234 w_1236 w_24 w_66 rfl nm_X10_of dX10_year_103 (sn_if_ge (tgt := 114) dX10_year_106 (by decide) (b_X10_year_114) (sn_aload_n dX10_year_109 rfl (sn_iload_n dX10_year_110 rfl (sn_cv w_1354 w_1356 w_38 w_66 rfl nm_X10_passes dX10_year_111 b_X10_year_114)))))))))))))
def q_X10_year_88 (X : mh_X) : mh_PR := s_push (.int (0)) (s_is 1 (mh_G X 90))
theorem b_X10_year_88 {E : mh_E} {d mc ms : Nat} {Post : Option Value → mh_H → Prop} : mh_S (x_X10_year E d mc ms Post) 88 (q_X10_year_88 (x_X10_year E d mc ms Post)) := sn_iconst dX10_year_88 (by decide) (sn_istore_n dX10_year_89 rfl (Nat.le_of_ble_eq_true rfl) mh_S.G)
def q_X10_year_41 (X : mh_X) : mh_PR := s_al 0 (s_cv X yX10_draw 10 0 (s_push (.int (100)) (s_div mh_rem (s_al 0 (s_gr 10 0 (s_push (.int (4)) (s_ald 0 (s_if2 (fun x y => y ≤ x) (q_X10_year_88 X) (s_al 0 (s_cv X yX10_draw 10 0 (s_push (.int (6)) (s_div mh_rem (s_is 1 (s_al 0 (s_gr 10 0 (s_push (.int (8)) (s_push (.int (2)) (s_il 1 (s_bin (fun x y => x * y) (s_bin (fun x y => x + y) (s_push (.int (1)) (s_bin (fun x y => x + y) (s_al 0 (s_il 1 (s_cv X yX10_rankOf 10 1 (s_push (.int (1)) (s_bin (fun x y => x + y) (s_push (.int (10)) (s_div mh_rem (s_ast 0 (fun x => x) (q_X10_year_88 X)))))))))))))))))))))))))))))))
theorem b_X10_year_41 {E : mh_E} {d mc ms : Nat} {Post : Option Value → mh_H → Prop} : mh_S (x_X10_year E d mc ms Post) 41 (q_X10_year_41 (x_X10_year E d mc ms Post)) := sn_aload_n dX10_year_41 rfl (sn_cv w_1326 w_1328 w_34 w_66 rfl nm_X10_draw dX10_year_42 (sn_bipush dX10_year_45 (by decide) (sn_irem dX10_year_47 (sn_aload_n dX10_year_48 rfl (sn_getr clX10 (by decide) w_1100 dX10_year_49 (sn_iconst dX10_year_52 (by decide) (sn_iaload dX10_year_53 (sn_icmp_ge (tgt := 88) dX10_year_54 (by decide) (b_X10_year_88) (sn_aload_n dX10_year_57 rfl (sn_cv w_1326 w_1328 w_34 w_66 rfl nm_X10_draw dX10_year_58 (sn_bipush dX10_year_61 (by decide) (sn_irem dX10_year_63 (sn_istore_n dX10_year_64 rfl (Nat.le_of_ble_eq_true rfl) (sn_aload_n dX10_year_65 rfl (sn_getr clX10 (by decide) w_1100 dX10_year_66 (sn_bipush dX10_year_69 (by decide) (sn_iconst dX10_year_71 (by decide) (sn_iload_n dX10_year_72 rfl (sn_imul dX10_year_73 (sn_iadd dX10_year_74 (sn_iconst dX10_year_75 (by decide) (sn_iadd dX10_year_76 (sn_aload_n dX10_year_77 rfl (sn_iload_n dX10_year_78 rfl (sn_cv w_1247 w_1249 w_27 w_66 rfl nm_X10_rankOf dX10_year_79 (sn_iconst dX10_year_82 (by decide) (sn_iadd dX10_year_83 (sn_bipush dX10_year_84 (by decide) (sn_irem dX10_year_86 (sn_iastore dX10_year_87 b_X10_year_88))))))))))))))))))))))))))))))
def q_X10_year_0 (X : mh_X) : mh_PR := s_al 0 (s_cv X yX10_draw 10 0 (s_push (.int (100)) (s_div mh_rem (s_al 0 (s_gr 10 0 (s_push (.int (3)) (s_ald 0 (s_if2 (fun x y => y ≤ x) (q_X10_year_41 X) (s_al 0 (s_cv X yX10_draw 10 0 (s_push (.int (6)) (s_div mh_rem (s_is 1 (s_al 0 (s_gr 10 0 (s_push (.int (8)) (s_push (.int (2)) (s_il 1 (s_bin (fun x y => x * y) (s_bin (fun x y => x + y) (s_al 0 (s_cv X yX10_draw 10 0 (s_push (.int (4)) (s_div mh_rem (s_ast 0 (fun x => x) (q_X10_year_41 X))))))))))))))))))))))))))
theorem b_X10_year_0 {E : mh_E} {d mc ms : Nat} {Post : Option Value → mh_H → Prop} : mh_S (x_X10_year E d mc ms Post) 0 (q_X10_year_0 (x_X10_year E d mc ms Post)) := sn_aload_n dX10_year_0 rfl (sn_cv w_1326 w_1328 w_34 w_66 rfl nm_X10_draw dX10_year_1 (sn_bipush dX10_year_4 (by decide) (sn_irem dX10_year_6 (sn_aload_n dX10_year_7 rfl (sn_getr clX10 (by decide) w_1100 dX10_year_8 (sn_iconst dX10_year_11 (by decide) (sn_iaload dX10_year_12 (sn_icmp_ge (tgt := 41) dX10_year_13 (by decide) (b_X10_year_41) (sn_aload_n dX10_year_16 rfl (sn_cv w_1326 w_1328 w_34 w_66 rfl nm_X10_draw dX10_year_17 (sn_bipush dX10_year_20 (by decide) (sn_irem dX10_year_22 (sn_istore_n dX10_year_23 rfl (Nat.le_of_ble_eq_true rfl) (sn_aload_n dX10_year_24 rfl (sn_getr clX10 (by decide) w_1100 dX10_year_25 (sn_bipush dX10_year_28 (by decide) (sn_iconst dX10_year_30 (by decide) (sn_iload_n dX10_year_31 rfl (sn_imul dX10_year_32 (sn_iadd dX10_year_33 (sn_aload_n dX10_year_34 rfl (sn_cv w_1326 w_1328 w_34 w_66 rfl nm_X10_draw dX10_year_35 (sn_iconst dX10_year_38 (by decide) (sn_irem dX10_year_39 (sn_iastore dX10_year_40 b_X10_year_41)))))))))))))))))))))))))
theorem m_X10_year {E : mh_E} {d mc ms : Nat} {args : List Value} {h : mh_H} {Post : Option Value → mh_H → Prop} (lv : List (Option Value)) (hl : lv_args 0 args = mh_al 0 lv) (hs : (lg_sl args).length ≤ 2) (hG : q_X10_year_0 (x_X10_year E d mc ms Post) lv [] h 0 0) : mh_M E d mc ms yX10_year args h Post := mh_M.of w_1353 (by decide) (by decide) hl hs (b_X10_year_0 _ _ _ _ _ hG)
theorem dX10_years_0 : decode cX10_years 0 = .ok (.iload_n 1, 1) := by decide +kernel
theorem dX10_years_1 : decode cX10_years 1 = .ok (.iconst 1, 1) := by decide +kernel
theorem dX10_years_2 : decode cX10_years 2 = .ok (.bipush 100, 2) := by decide +kernel
theorem dX10_years_4 : decode cX10_years 4 = .ok (.invokestatic 79, 3) := by decide +kernel
theorem dX10_years_7 : decode cX10_years 7 = .ok (.ifCond .ne 6, 3) := by decide +kernel
theorem dX10_years_10 : decode cX10_years 10 = .ok (.ldc 91, 2) := by decide +kernel
theorem dX10_years_12 : decode cX10_years 12 = .ok (.ireturn, 1) := by decide +kernel
theorem dX10_years_13 : decode cX10_years 13 = .ok (.aload_n 0, 1) := by decide +kernel
theorem dX10_years_14 : decode cX10_years 14 = .ok (.invokevirtual 159, 3) := by decide +kernel
theorem dX10_years_17 : decode cX10_years 17 = .ok (.invokestatic 162, 3) := by decide +kernel
theorem dX10_years_20 : decode cX10_years 20 = .ok (.istore_n 2, 1) := by decide +kernel
theorem dX10_years_21 : decode cX10_years 21 = .ok (.aload_n 0, 1) := by decide +kernel
theorem dX10_years_22 : decode cX10_years 22 = .ok (.sipush 9999, 3) := by decide +kernel
theorem dX10_years_25 : decode cX10_years 25 = .ok (.aload_n 0, 1) := by decide +kernel
theorem dX10_years_26 : decode cX10_years 26 = .ok (.getfield 9, 3) := by decide +kernel
theorem dX10_years_29 : decode cX10_years 29 = .ok (.iconst 2, 1) := by decide +kernel
theorem dX10_years_30 : decode cX10_years 30 = .ok (.iaload, 1) := by decide +kernel
theorem dX10_years_31 : decode cX10_years 31 = .ok (.isub, 1) := by decide +kernel
theorem dX10_years_32 : decode cX10_years 32 = .ok (.iconst 0, 1) := by decide +kernel
theorem dX10_years_33 : decode cX10_years 33 = .ok (.iload_n 1, 1) := by decide +kernel
theorem dX10_years_34 : decode cX10_years 34 = .ok (.invokestatic 116, 3) := by decide +kernel
theorem dX10_years_37 : decode cX10_years 37 = .ok (.invokevirtual 165, 3) := by decide +kernel
theorem dX10_years_40 : decode cX10_years 40 = .ok (.aload_n 0, 1) := by decide +kernel
theorem dX10_years_41 : decode cX10_years 41 = .ok (.invokevirtual 159, 3) := by decide +kernel
theorem dX10_years_44 : decode cX10_years 44 = .ok (.invokestatic 162, 3) := by decide +kernel
theorem dX10_years_47 : decode cX10_years 47 = .ok (.iload_n 2, 1) := by decide +kernel
theorem dX10_years_48 : decode cX10_years 48 = .ok (.isub, 1) := by decide +kernel
theorem dX10_years_49 : decode cX10_years 49 = .ok (.ireturn, 1) := by decide +kernel
abbrev x_X10_years (E : mh_E) (d mc ms : Nat) (Post : Option Value → mh_H → Prop) : mh_X := (E, yX10_years, cX10_years, 3, (some .int), d, mc, ms, Post)
def q_X10_years_0 (X : mh_X) : mh_PR := s_il 1 (s_push (.int (1)) (s_push (.int (100)) (s_cs X yX10_in 3 (s_if1 (fun x => ¬ x = 0) (s_al 0 (s_cv X yX10_fulfilled 10 0 (s_cs X yX10_manyOf 1 (s_is 2 (s_al 0 (s_push (.int (9999)) (s_al 0 (s_gr 10 0 (s_push (.int (2)) (s_ald 0 (s_bin (fun x y => x - y) (s_push (.int (0)) (s_il 1 (s_cs X yX10_within 3 (s_cv X yX10_goesOn 10 1 (s_al 0 (s_cv X yX10_fulfilled 10 0 (s_cs X yX10_manyOf 1 (s_il 2 (s_bin (fun x y => x - y) (s_iret X))))))))))))))))))))) (s_push (.int (-1000000001)) (s_iret X))))))
theorem b_X10_years_0 {E : mh_E} {d mc ms : Nat} {Post : Option Value → mh_H → Prop} : mh_S (x_X10_years E d mc ms Post) 0 (q_X10_years_0 (x_X10_years E d mc ms Post)) := sn_iload_n dX10_years_0 rfl (sn_iconst dX10_years_1 (by decide) (sn_bipush dX10_years_2 (by decide) (sn_cs w_1210 w_1211 w_66 nm_X10_in dX10_years_4 (sn_if_ne (tgt := 13) dX10_years_7 (by decide) (sn_aload_n dX10_years_13 rfl (sn_cv w_1339 w_1341 w_35 w_66 rfl nm_X10_fulfilled dX10_years_14 (sn_cs w_1343 w_1344 w_66 nm_X10_manyOf dX10_years_17 (sn_istore_n dX10_years_20 rfl (Nat.le_of_ble_eq_true rfl) (sn_aload_n dX10_years_21 rfl (sn_sipush dX10_years_22 (by decide) (sn_aload_n dX10_years_25 rfl (sn_getr clX10 (by decide) w_1100 dX10_years_26 (sn_iconst dX10_years_29 (by decide) (sn_iaload dX10_years_30 (sn_isub dX10_years_31 (sn_iconst dX10_years_32 (by decide) (sn_iload_n dX10_years_33 rfl (sn_cs w_1264 w_1265 w_66 nm_X10_within dX10_years_34 (sn_cv w_1346 w_1348 w_36 w_66 rfl nm_X10_goesOn dX10_years_37 (sn_aload_n dX10_years_40 rfl (sn_cv w_1339 w_1341 w_35 w_66 rfl nm_X10_fulfilled dX10_years_41 (sn_cs w_1343 w_1344 w_66 nm_X10_manyOf dX10_years_44 (sn_iload_n dX10_years_47 rfl (sn_isub dX10_years_48 (sn_iret rfl dX10_years_49))))))))))))))))))))) (sn_ldc dX10_years_10 w_1216 (sn_iret rfl dX10_years_12))))))
theorem m_X10_years {E : mh_E} {d mc ms : Nat} {args : List Value} {h : mh_H} {Post : Option Value → mh_H → Prop} (lv : List (Option Value)) (hl : lv_args 0 args = mh_al 0 lv) (hs : (lg_sl args).length ≤ 3) (hG : q_X10_years_0 (x_X10_years E d mc ms Post) lv [] h 0 0) : mh_M E d mc ms yX10_years args h Post := mh_M.of w_1338 (by decide) (by decide) hl hs (b_X10_years_0 _ _ _ _ _ hG)
theorem dX10_thinks_0 : decode cX10_thinks 0 = .ok (.iconst 0, 1) := by decide +kernel
theorem dX10_thinks_1 : decode cX10_thinks 1 = .ok (.istore_n 1, 1) := by decide +kernel
theorem dX10_thinks_2 : decode cX10_thinks 2 = .ok (.iload_n 1, 1) := by decide +kernel
theorem dX10_thinks_3 : decode cX10_thinks 3 = .ok (.bipush 80, 2) := by decide +kernel
theorem dX10_thinks_5 : decode cX10_thinks 5 = .ok (.if_icmp .ge 21, 3) := by decide +kernel
theorem dX10_thinks_8 : decode cX10_thinks 8 = .ok (.aload_n 0, 1) := by decide +kernel
theorem dX10_thinks_9 : decode cX10_thinks 9 = .ok (.getfield 19, 3) := by decide +kernel
theorem dX10_thinks_12 : decode cX10_thinks 12 = .ok (.iload_n 1, 1) := by decide +kernel
theorem dX10_thinks_13 : decode cX10_thinks 13 = .ok (.aload_n 0, 1) := by decide +kernel
theorem dX10_thinks_14 : decode cX10_thinks 14 = .ok (.getfield 9, 3) := by decide +kernel
theorem dX10_thinks_17 : decode cX10_thinks 17 = .ok (.iload_n 1, 1) := by decide +kernel
theorem dX10_thinks_18 : decode cX10_thinks 18 = .ok (.iaload, 1) := by decide +kernel
theorem dX10_thinks_19 : decode cX10_thinks 19 = .ok (.iastore, 1) := by decide +kernel
theorem dX10_thinks_20 : decode cX10_thinks 20 = .ok (.iinc 1 1, 3) := by decide +kernel
theorem dX10_thinks_23 : decode cX10_thinks 23 = .ok (.goto (-21), 3) := by decide +kernel
theorem dX10_thinks_26 : decode cX10_thinks 26 = .ok (.return_, 1) := by decide +kernel
abbrev x_X10_thinks (E : mh_E) (d mc ms : Nat) (Post : Option Value → mh_H → Prop) : mh_X := (E, yX10_thinks, cX10_thinks, 2, none, d, mc, ms, Post)
def q_X10_thinks_2 (X : mh_X) : mh_PR := s_il 1 (s_push (.int (80)) (s_if2 (fun x y => y ≤ x) (s_vret X) (s_al 0 (s_gr 10 4 (s_il 1 (s_al 0 (s_gr 10 0 (s_il 1 (s_ald 0 (s_ast 0 (fun x => x) (s_inc 1 (1) (mh_G X 2))))))))))))
theorem b_X10_thinks_2 {E : mh_E} {d mc ms : Nat} {Post : Option Value → mh_H → Prop} : mh_S (x_X10_thinks E d mc ms Post) 2 (q_X10_thinks_2 (x_X10_thinks E d mc ms Post)) := sn_iload_n dX10_thinks_2 rfl (sn_bipush dX10_thinks_3 (by decide) (sn_icmp_ge (tgt := 26) dX10_thinks_5 (by decide) (sn_vret rfl dX10_thinks_26) (sn_aload_n dX10_thinks_8 rfl (sn_getr clX10 (by decide) w_1104 dX10_thinks_9 (sn_iload_n dX10_thinks_12 rfl (sn_aload_n dX10_thinks_13 rfl (sn_getr clX10 (by decide) w_1100 dX10_thinks_14 (sn_iload_n dX10_thinks_17 rfl (sn_iaload dX10_thinks_18 (sn_iastore dX10_thinks_19 (sn_iinc dX10_thinks_20 (by decide) (Nat.le_of_ble_eq_true rfl) (sn_goto (tgt := 2) dX10_thinks_23 (by decide) (mh_S.G)))))))))))))
def q_X10_thinks_0 (X : mh_X) : mh_PR := s_push (.int (0)) (s_is 1 (mh_G X 2))
theorem b_X10_thinks_0 {E : mh_E} {d mc ms : Nat} {Post : Option Value → mh_H → Prop} : mh_S (x_X10_thinks E d mc ms Post) 0 (q_X10_thinks_0 (x_X10_thinks E d mc ms Post)) := sn_iconst dX10_thinks_0 (by decide) (sn_istore_n dX10_thinks_1 rfl (Nat.le_of_ble_eq_true rfl) mh_S.G)
theorem m_X10_thinks {E : mh_E} {d mc ms : Nat} {args : List Value} {h : mh_H} {Post : Option Value → mh_H → Prop} (lv : List (Option Value)) (hl : lv_args 0 args = mh_al 0 lv) (hs : (lg_sl args).length ≤ 2) (hG : q_X10_thinks_0 (x_X10_thinks E d mc ms Post) lv [] h 0 0) : mh_M E d mc ms yX10_thinks args h Post := mh_M.of w_1377 (by decide) (by decide) hl hs (b_X10_thinks_0 _ _ _ _ _ hG)
theorem dX10_sendsAll_0 : decode cX10_sendsAll 0 = .ok (.iconst 0, 1) := by decide +kernel
theorem dX10_sendsAll_1 : decode cX10_sendsAll 1 = .ok (.istore_n 2, 1) := by decide +kernel
theorem dX10_sendsAll_2 : decode cX10_sendsAll 2 = .ok (.iload_n 2, 1) := by decide +kernel
theorem dX10_sendsAll_3 : decode cX10_sendsAll 3 = .ok (.bipush 6, 2) := by decide +kernel
theorem dX10_sendsAll_5 : decode cX10_sendsAll 5 = .ok (.if_icmp .ge 29, 3) := by decide +kernel
theorem dX10_sendsAll_8 : decode cX10_sendsAll 8 = .ok (.aload_n 0, 1) := by decide +kernel
theorem dX10_sendsAll_9 : decode cX10_sendsAll 9 = .ok (.getfield 9, 3) := by decide +kernel
theorem dX10_sendsAll_12 : decode cX10_sendsAll 12 = .ok (.bipush 8, 2) := by decide +kernel
theorem dX10_sendsAll_14 : decode cX10_sendsAll 14 = .ok (.iconst 2, 1) := by decide +kernel
theorem dX10_sendsAll_15 : decode cX10_sendsAll 15 = .ok (.iload_n 2, 1) := by decide +kernel
theorem dX10_sendsAll_16 : decode cX10_sendsAll 16 = .ok (.imul, 1) := by decide +kernel
theorem dX10_sendsAll_17 : decode cX10_sendsAll 17 = .ok (.iadd, 1) := by decide +kernel
theorem dX10_sendsAll_18 : decode cX10_sendsAll 18 = .ok (.iload_n 1, 1) := by decide +kernel
theorem dX10_sendsAll_19 : decode cX10_sendsAll 19 = .ok (.iconst 2, 1) := by decide +kernel
theorem dX10_sendsAll_20 : decode cX10_sendsAll 20 = .ok (.iconst 5, 1) := by decide +kernel
theorem dX10_sendsAll_21 : decode cX10_sendsAll 21 = .ok (.iload_n 2, 1) := by decide +kernel
theorem dX10_sendsAll_22 : decode cX10_sendsAll 22 = .ok (.isub, 1) := by decide +kernel
theorem dX10_sendsAll_23 : decode cX10_sendsAll 23 = .ok (.imul, 1) := by decide +kernel
theorem dX10_sendsAll_24 : decode cX10_sendsAll 24 = .ok (.ishr, 1) := by decide +kernel
theorem dX10_sendsAll_25 : decode cX10_sendsAll 25 = .ok (.iconst 3, 1) := by decide +kernel
theorem dX10_sendsAll_26 : decode cX10_sendsAll 26 = .ok (.iand, 1) := by decide +kernel
theorem dX10_sendsAll_27 : decode cX10_sendsAll 27 = .ok (.iastore, 1) := by decide +kernel
theorem dX10_sendsAll_28 : decode cX10_sendsAll 28 = .ok (.iinc 2 1, 3) := by decide +kernel
theorem dX10_sendsAll_31 : decode cX10_sendsAll 31 = .ok (.goto (-29), 3) := by decide +kernel
theorem dX10_sendsAll_34 : decode cX10_sendsAll 34 = .ok (.return_, 1) := by decide +kernel
abbrev x_X10_sendsAll (E : mh_E) (d mc ms : Nat) (Post : Option Value → mh_H → Prop) : mh_X := (E, yX10_sendsAll, cX10_sendsAll, 3, none, d, mc, ms, Post)
def q_X10_sendsAll_2 (X : mh_X) : mh_PR := s_il 2 (s_push (.int (6)) (s_if2 (fun x y => y ≤ x) (s_vret X) (s_al 0 (s_gr 10 0 (s_push (.int (8)) (s_push (.int (2)) (s_il 2 (s_bin (fun x y => x * y) (s_bin (fun x y => x + y) (s_il 1 (s_push (.int (2)) (s_push (.int (5)) (s_il 2 (s_bin (fun x y => x - y) (s_bin (fun x y => x * y) (s_bin mh_shr (s_push (.int (3)) (s_bin (fun x y => x &&& y) (s_ast 0 (fun x => x) (s_inc 2 (1) (mh_G X 2)))))))))))))))))))))
theorem b_X10_sendsAll_2 {E : mh_E} {d mc ms : Nat} {Post : Option Value → mh_H → Prop} : mh_S (x_X10_sendsAll E d mc ms Post) 2 (q_X10_sendsAll_2 (x_X10_sendsAll E d mc ms Post)) := sn_iload_n dX10_sendsAll_2 rfl (sn_bipush dX10_sendsAll_3 (by decide) (sn_icmp_ge (tgt := 34) dX10_sendsAll_5 (by decide) (sn_vret rfl dX10_sendsAll_34) (sn_aload_n dX10_sendsAll_8 rfl (sn_getr clX10 (by decide) w_1100 dX10_sendsAll_9 (sn_bipush dX10_sendsAll_12 (by decide) (sn_iconst dX10_sendsAll_14 (by decide) (sn_iload_n dX10_sendsAll_15 rfl (sn_imul dX10_sendsAll_16 (sn_iadd dX10_sendsAll_17 (sn_iload_n dX10_sendsAll_18 rfl (sn_iconst dX10_sendsAll_19 (by decide) (sn_iconst dX10_sendsAll_20 (by decide) (sn_iload_n dX10_sendsAll_21 rfl (sn_isub dX10_sendsAll_22 (sn_imul dX10_sendsAll_23 (sn_ishr dX10_sendsAll_24 (sn_iconst dX10_sendsAll_25 (by decide) (sn_iand dX10_sendsAll_26 (sn_iastore dX10_sendsAll_27 (sn_iinc dX10_sendsAll_28 (by decide) (Nat.le_of_ble_eq_true rfl) (sn_goto (tgt := 2) dX10_sendsAll_31 (by decide) (mh_S.G))))))))))))))))))))))
def q_X10_sendsAll_0 (X : mh_X) : mh_PR := s_push (.int (0)) (s_is 2 (mh_G X 2))
theorem b_X10_sendsAll_0 {E : mh_E} {d mc ms : Nat} {Post : Option Value → mh_H → Prop} : mh_S (x_X10_sendsAll E d mc ms Post) 0 (q_X10_sendsAll_0 (x_X10_sendsAll E d mc ms Post)) := sn_iconst dX10_sendsAll_0 (by decide) (sn_istore_n dX10_sendsAll_1 rfl (Nat.le_of_ble_eq_true rfl) mh_S.G)
theorem m_X10_sendsAll {E : mh_E} {d mc ms : Nat} {args : List Value} {h : mh_H} {Post : Option Value → mh_H → Prop} (lv : List (Option Value)) (hl : lv_args 0 args = mh_al 0 lv) (hs : (lg_sl args).length ≤ 3) (hG : q_X10_sendsAll_0 (x_X10_sendsAll E d mc ms Post) lv [] h 0 0) : mh_M E d mc ms yX10_sendsAll args h Post := mh_M.of w_1381 (by decide) (by decide) hl hs (b_X10_sendsAll_0 _ _ _ _ _ hG)
theorem dX10_together_0 : decode cX10_together 0 = .ok (.iload_n 1, 1) := by decide +kernel
theorem dX10_together_1 : decode cX10_together 1 = .ok (.iconst (-1), 1) := by decide +kernel
theorem dX10_together_2 : decode cX10_together 2 = .ok (.iconst 5, 1) := by decide +kernel
theorem dX10_together_3 : decode cX10_together 3 = .ok (.invokestatic 79, 3) := by decide +kernel
theorem dX10_together_6 : decode cX10_together 6 = .ok (.ifCond .ne 6, 3) := by decide +kernel
theorem dX10_together_9 : decode cX10_together 9 = .ok (.ldc 91, 2) := by decide +kernel
theorem dX10_together_11 : decode cX10_together 11 = .ok (.ireturn, 1) := by decide +kernel
theorem dX10_together_12 : decode cX10_together 12 = .ok (.aload_n 0, 1) := by decide +kernel
theorem dX10_together_13 : decode cX10_together 13 = .ok (.invokevirtual 174, 3) := by decide +kernel
theorem dX10_together_16 : decode cX10_together 16 = .ok (.iconst 0, 1) := by decide +kernel
theorem dX10_together_17 : decode cX10_together 17 = .ok (.istore_n 2, 1) := by decide +kernel
theorem dX10_together_18 : decode cX10_together 18 = .ok (.iconst (-1), 1) := by decide +kernel
theorem dX10_together_19 : decode cX10_together 19 = .ok (.istore_n 3, 1) := by decide +kernel
theorem dX10_together_20 : decode cX10_together 20 = .ok (.iconst 0, 1) := by decide +kernel
theorem dX10_together_21 : decode cX10_together 21 = .ok (.istore 4, 2) := by decide +kernel
theorem dX10_together_23 : decode cX10_together 23 = .ok (.iload 4, 2) := by decide +kernel
theorem dX10_together_25 : decode cX10_together 25 = .ok (.sipush 4096, 3) := by decide +kernel
theorem dX10_together_28 : decode cX10_together 28 = .ok (.if_icmp .ge 92, 3) := by decide +kernel
theorem dX10_together_31 : decode cX10_together 31 = .ok (.aload_n 0, 1) := by decide +kernel
theorem dX10_together_32 : decode cX10_together 32 = .ok (.iload 4, 2) := by decide +kernel
theorem dX10_together_34 : decode cX10_together 34 = .ok (.invokevirtual 177, 3) := by decide +kernel
theorem dX10_together_37 : decode cX10_together 37 = .ok (.iconst 0, 1) := by decide +kernel
theorem dX10_together_38 : decode cX10_together 38 = .ok (.istore 5, 2) := by decide +kernel
theorem dX10_together_40 : decode cX10_together 40 = .ok (.iconst 0, 1) := by decide +kernel
theorem dX10_together_41 : decode cX10_together 41 = .ok (.istore 6, 2) := by decide +kernel
theorem dX10_together_43 : decode cX10_together 43 = .ok (.iload 6, 2) := by decide +kernel
theorem dX10_together_45 : decode cX10_together 45 = .ok (.aload_n 0, 1) := by decide +kernel
theorem dX10_together_46 : decode cX10_together 46 = .ok (.getfield 9, 3) := by decide +kernel
theorem dX10_together_49 : decode cX10_together 49 = .ok (.iconst 1, 1) := by decide +kernel
theorem dX10_together_50 : decode cX10_together 50 = .ok (.iaload, 1) := by decide +kernel
theorem dX10_together_51 : decode cX10_together 51 = .ok (.if_icmp .ge 37, 3) := by decide +kernel
theorem dX10_together_54 : decode cX10_together 54 = .ok (.iload 5, 2) := by decide +kernel
theorem dX10_together_56 : decode cX10_together 56 = .ok (.aload_n 0, 1) := by decide +kernel
theorem dX10_together_57 : decode cX10_together 57 = .ok (.iload 6, 2) := by decide +kernel
theorem dX10_together_59 : decode cX10_together 59 = .ok (.invokevirtual 168, 3) := by decide +kernel
theorem dX10_together_62 : decode cX10_together 62 = .ok (.ifCond .eq 16, 3) := by decide +kernel
theorem dX10_together_65 : decode cX10_together 65 = .ok (.aload_n 0, 1) := by decide +kernel
theorem dX10_together_66 : decode cX10_together 66 = .ok (.iload 6, 2) := by decide +kernel
theorem dX10_together_68 : decode cX10_together 68 = .ok (.invokevirtual 127, 3) := by decide +kernel
theorem dX10_together_71 : decode cX10_together 71 = .ok (.ifCond .eq 7, 3) := by decide +kernel
theorem dX10_together_74 : decode cX10_together 74 = .ok (.iconst 1, 1) := by decide +kernel
theorem dX10_together_75 : decode cX10_together 75 = .ok (.goto 4, 3) := by decide +kernel
theorem dX10_together_78 : decode cX10_together 78 = .ok (.iconst 0, 1) := by decide +kernel
theorem dX10_together_79 : decode cX10_together 79 = .ok (.iadd, 1) := by decide +kernel
theorem dX10_together_80 : decode cX10_together 80 = .ok (.istore 5, 2) := by decide +kernel
theorem dX10_together_82 : decode cX10_together 82 = .ok (.iinc 6 1, 3) := by decide +kernel
theorem dX10_together_85 : decode cX10_together 85 = .ok (.goto (-42), 3) := by decide +kernel
theorem dX10_together_88 : decode cX10_together 88 = .ok (.iload 5, 2) := by decide +kernel
theorem dX10_together_90 : decode cX10_together 90 = .ok (.iload_n 3, 1) := by decide +kernel
theorem dX10_together_91 : decode cX10_together 91 = .ok (.if_icmp .le 8, 3) := by decide +kernel
theorem dX10_together_94 : decode cX10_together 94 = .ok (.iload 4, 2) := by decide +kernel
theorem dX10_together_96 : decode cX10_together 96 = .ok (.goto 4, 3) := by decide +kernel
theorem dX10_together_99 : decode cX10_together 99 = .ok (.iload_n 2, 1) := by decide +kernel
theorem dX10_together_100 : decode cX10_together 100 = .ok (.istore_n 2, 1) := by decide +kernel
theorem dX10_together_101 : decode cX10_together 101 = .ok (.iload 5, 2) := by decide +kernel
theorem dX10_together_103 : decode cX10_together 103 = .ok (.iload_n 3, 1) := by decide +kernel
theorem dX10_together_104 : decode cX10_together 104 = .ok (.if_icmp .le 8, 3) := by decide +kernel
theorem dX10_together_107 : decode cX10_together 107 = .ok (.iload 5, 2) := by decide +kernel
theorem dX10_together_109 : decode cX10_together 109 = .ok (.goto 4, 3) := by decide +kernel
theorem dX10_together_112 : decode cX10_together 112 = .ok (.iload_n 3, 1) := by decide +kernel
theorem dX10_together_113 : decode cX10_together 113 = .ok (.istore_n 3, 1) := by decide +kernel
theorem dX10_together_114 : decode cX10_together 114 = .ok (.iinc 4 1, 3) := by decide +kernel
theorem dX10_together_117 : decode cX10_together 117 = .ok (.goto (-94), 3) := by decide +kernel
theorem dX10_together_120 : decode cX10_together 120 = .ok (.aload_n 0, 1) := by decide +kernel
theorem dX10_together_121 : decode cX10_together 121 = .ok (.invokevirtual 180, 3) := by decide +kernel
theorem dX10_together_124 : decode cX10_together 124 = .ok (.iload_n 1, 1) := by decide +kernel
theorem dX10_together_125 : decode cX10_together 125 = .ok (.ifCond .ge 7, 3) := by decide +kernel
theorem dX10_together_128 : decode cX10_together 128 = .ok (.iload_n 3, 1) := by decide +kernel
theorem dX10_together_129 : decode cX10_together 129 = .ok (.goto 12, 3) := by decide +kernel
theorem dX10_together_132 : decode cX10_together 132 = .ok (.iload_n 2, 1) := by decide +kernel
theorem dX10_together_133 : decode cX10_together 133 = .ok (.iconst 2, 1) := by decide +kernel
theorem dX10_together_134 : decode cX10_together 134 = .ok (.iconst 5, 1) := by decide +kernel
theorem dX10_together_135 : decode cX10_together 135 = .ok (.iload_n 1, 1) := by decide +kernel
theorem dX10_together_136 : decode cX10_together 136 = .ok (.isub, 1) := by decide +kernel
theorem dX10_together_137 : decode cX10_together 137 = .ok (.imul, 1) := by decide +kernel
theorem dX10_together_138 : decode cX10_together 138 = .ok (.ishr, 1) := by decide +kernel
theorem dX10_together_139 : decode cX10_together 139 = .ok (.iconst 3, 1) := by decide +kernel
theorem dX10_together_140 : decode cX10_together 140 = .ok (.iand, 1) := by decide +kernel
theorem dX10_together_141 : decode cX10_together 141 = .ok (.ireturn, 1) := by decide +kernel
abbrev x_X10_together (E : mh_E) (d mc ms : Nat) (Post : Option Value → mh_H → Prop) : mh_X := (E, yX10_together, cX10_together, 7, (some .int), d, mc, ms, Post)
def q_X10_together_141 (X : mh_X) : mh_PR := s_iret X
theorem b_X10_together_141 {E : mh_E} {d mc ms : Nat} {Post : Option Value → mh_H → Prop} : mh_S (x_X10_together E d mc ms Post) 141 (q_X10_together_141 (x_X10_together E d mc ms Post)) := sn_iret rfl dX10_together_141
def q_X10_together_113 (X : mh_X) : mh_PR := s_is 3 (s_inc 4 (1) (mh_G X 23))
theorem b_X10_together_113 {E : mh_E} {d mc ms : Nat} {Post : Option Value → mh_H → Prop} : mh_S (x_X10_together E d mc ms Post) 113 (q_X10_together_113 (x_X10_together E d mc ms Post)) := sn_istore_n dX10_together_113 rfl (Nat.le_of_ble_eq_true rfl) (sn_iinc dX10_together_114 (by decide) (Nat.le_of_ble_eq_true rfl) (sn_goto (tgt := 23) dX10_together_117 (by decide) (mh_S.G)))
def q_X10_together_100 (X : mh_X) : mh_PR := s_is 2 (s_il 5 (s_il 3 (s_if2 (fun x y => x ≤ y) (s_il 3 (q_X10_together_113 X)) (s_il 5 (q_X10_together_113 X)))))
theorem b_X10_together_100 {E : mh_E} {d mc ms : Nat} {Post : Option Value → mh_H → Prop} : mh_S (x_X10_together E d mc ms Post) 100 (q_X10_together_100 (x_X10_together E d mc ms Post)) := sn_istore_n dX10_together_100 rfl (Nat.le_of_ble_eq_true rfl) (sn_iload dX10_together_101 (sn_iload_n dX10_together_103 rfl (sn_icmp_le (tgt := 112) dX10_together_104 (by decide) (sn_iload_n dX10_together_112 rfl b_X10_together_113) (sn_iload dX10_together_107 (sn_goto (tgt := 113) dX10_together_109 (by decide) (b_X10_together_113))))))
def q_X10_together_79 (X : mh_X) : mh_PR := s_bin (fun x y => x + y) (s_is 5 (s_inc 6 (1) (mh_G X 43)))
theorem b_X10_together_79 {E : mh_E} {d mc ms : Nat} {Post : Option Value → mh_H → Prop} : mh_S (x_X10_together E d mc ms Post) 79 (q_X10_together_79 (x_X10_together E d mc ms Post)) := sn_iadd dX10_together_79 (sn_istore dX10_together_80 (Nat.le_of_ble_eq_true rfl) (sn_iinc dX10_together_82 (by decide) (Nat.le_of_ble_eq_true rfl) (sn_goto (tgt := 43) dX10_together_85 (by decide) (mh_S.G))))
def q_X10_together_78 (X : mh_X) : mh_PR := s_push (.int (0)) (q_X10_together_79 X)
theorem b_X10_together_78 {E : mh_E} {d mc ms : Nat} {Post : Option Value → mh_H → Prop} : mh_S (x_X10_together E d mc ms Post) 78 (q_X10_together_78 (x_X10_together E d mc ms Post)) := sn_iconst dX10_together_78 (by decide) b_X10_together_79
def q_X10_together_43 (X : mh_X) : mh_PR := s_il 6 (s_al 0 (s_gr 10 0 (s_push (.int (1)) (s_ald 0 (s_if2 (fun x y => y ≤ x) (s_il 5 (s_il 3 (s_if2 (fun x y => x ≤ y) (s_il 2 (q_X10_together_100 X)) (s_il 4 (q_X10_together_100 X))))) (s_il 5 (s_al 0 (s_il 6 (s_cv X yX10_isOpen 10 1 (s_if1 (fun x => x = 0) (q_X10_together_78 X) (s_al 0 (s_il 6 (s_cv X yX10_doesHold 10 1 (s_if1 (fun x => x = 0) (q_X10_together_78 X) (s_push (.int (1)) (q_X10_together_79 X))))))))))))))))
theorem b_X10_together_43 {E : mh_E} {d mc ms : Nat} {Post : Option Value → mh_H → Prop} : mh_S (x_X10_together E d mc ms Post) 43 (q_X10_together_43 (x_X10_together E d mc ms Post)) := sn_iload dX10_together_43 (sn_aload_n dX10_together_45 rfl (sn_getr clX10 (by decide) w_1100 dX10_together_46 (sn_iconst dX10_together_49 (by decide) (sn_iaload dX10_together_50 (sn_icmp_ge (tgt := 88) dX10_together_51 (by decide) (sn_iload dX10_together_88 (sn_iload_n dX10_together_90 rfl (sn_icmp_le (tgt := 99) dX10_together_91 (by decide) (sn_iload_n dX10_together_99 rfl b_X10_together_100) (sn_iload dX10_together_94 (sn_goto (tgt := 100) dX10_together_96 (by decide) (b_X10_together_100)))))) (sn_iload dX10_together_54 (sn_aload_n dX10_together_56 rfl (sn_iload dX10_together_57 (sn_cv w_1362 w_1364 w_39 w_66 rfl nm_X10_isOpen dX10_together_59 (sn_if_eq (tgt := 78) dX10_together_62 (by decide) (b_X10_together_78) (sn_aload_n dX10_together_65 rfl (sn_iload dX10_together_66 (sn_cv w_1239 w_1241 w_25 w_66 rfl nm_X10_doesHold dX10_together_68 (sn_if_eq (tgt := 78) dX10_together_71 (by decide) (b_X10_together_78) (sn_iconst dX10_together_74 (by decide) (sn_goto (tgt := 79) dX10_together_75 (by decide) (b_X10_together_79)))))))))))))))))
def q_X10_together_23 (X : mh_X) : mh_PR := s_il 4 (s_push (.int (4096)) (s_if2 (fun x y => y ≤ x) (s_al 0 (s_cv X yX10_putsBack 10 0 (s_il 1 (s_if1 (fun x => 0 ≤ x) (s_il 2 (s_push (.int (2)) (s_push (.int (5)) (s_il 1 (s_bin (fun x y => x - y) (s_bin (fun x y => x * y) (s_bin mh_shr (s_push (.int (3)) (s_bin (fun x y => x &&& y) (q_X10_together_141 X)))))))))) (s_il 3 (q_X10_together_141 X)))))) (s_al 0 (s_il 4 (s_cv X yX10_sendsAll 10 1 (s_push (.int (0)) (s_is 5 (s_push (.int (0)) (s_is 6 (mh_G X 43))))))))))
theorem b_X10_together_23 {E : mh_E} {d mc ms : Nat} {Post : Option Value → mh_H → Prop} : mh_S (x_X10_together E d mc ms Post) 23 (q_X10_together_23 (x_X10_together E d mc ms Post)) := sn_iload dX10_together_23 (sn_sipush dX10_together_25 (by decide) (sn_icmp_ge (tgt := 120) dX10_together_28 (by decide) (sn_aload_n dX10_together_120 rfl (sn_cv w_1382 w_1384 w_43 w_66 rfl nm_X10_putsBack dX10_together_121 (sn_iload_n dX10_together_124 rfl (sn_if_ge (tgt := 132) dX10_together_125 (by decide) (sn_iload_n dX10_together_132 rfl (sn_iconst dX10_together_133 (by decide) (sn_iconst dX10_together_134 (by decide) (sn_iload_n dX10_together_135 rfl (sn_isub dX10_together_136 (sn_imul dX10_together_137 (sn_ishr dX10_together_138 (sn_iconst dX10_together_139 (by decide) (sn_iand dX10_together_140 b_X10_together_141))))))))) (sn_iload_n dX10_together_128 rfl (sn_goto (tgt := 141) dX10_together_129 (by decide) (b_X10_together_141))))))) (sn_aload_n dX10_together_31 rfl (sn_iload dX10_together_32 (sn_cv w_1378 w_1380 w_42 w_66 rfl nm_X10_sendsAll dX10_together_34 (sn_iconst dX10_together_37 (by decide) (sn_istore dX10_together_38 (Nat.le_of_ble_eq_true rfl) (sn_iconst dX10_together_40 (by decide) (sn_istore dX10_together_41 (Nat.le_of_ble_eq_true rfl) mh_S.G)))))))))
def q_X10_together_0 (X : mh_X) : mh_PR := s_il 1 (s_push (.int (-1)) (s_push (.int (5)) (s_cs X yX10_in 3 (s_if1 (fun x => ¬ x = 0) (s_al 0 (s_cv X yX10_thinks 10 0 (s_push (.int (0)) (s_is 2 (s_push (.int (-1)) (s_is 3 (s_push (.int (0)) (s_is 4 (mh_G X 23))))))))) (s_push (.int (-1000000001)) (s_iret X))))))
theorem b_X10_together_0 {E : mh_E} {d mc ms : Nat} {Post : Option Value → mh_H → Prop} : mh_S (x_X10_together E d mc ms Post) 0 (q_X10_together_0 (x_X10_together E d mc ms Post)) := sn_iload_n dX10_together_0 rfl (sn_iconst dX10_together_1 (by decide) (sn_iconst dX10_together_2 (by decide) (sn_cs w_1210 w_1211 w_66 nm_X10_in dX10_together_3 (sn_if_ne (tgt := 12) dX10_together_6 (by decide) (sn_aload_n dX10_together_12 rfl (sn_cv w_1374 w_1376 w_41 w_66 rfl nm_X10_thinks dX10_together_13 (sn_iconst dX10_together_16 (by decide) (sn_istore_n dX10_together_17 rfl (Nat.le_of_ble_eq_true rfl) (sn_iconst dX10_together_18 (by decide) (sn_istore_n dX10_together_19 rfl (Nat.le_of_ble_eq_true rfl) (sn_iconst dX10_together_20 (by decide) (sn_istore dX10_together_21 (Nat.le_of_ble_eq_true rfl) mh_S.G)))))))) (sn_ldc dX10_together_9 w_1216 (sn_iret rfl dX10_together_11))))))
theorem m_X10_together {E : mh_E} {d mc ms : Nat} {args : List Value} {h : mh_H} {Post : Option Value → mh_H → Prop} (lv : List (Option Value)) (hl : lv_args 0 args = mh_al 0 lv) (hs : (lg_sl args).length ≤ 7) (hG : q_X10_together_0 (x_X10_together E d mc ms Post) lv [] h 0 0) : mh_M E d mc ms yX10_together args h Post := mh_M.of w_1373 (by decide) (by decide) hl hs (b_X10_together_0 _ _ _ _ _ hG)
theorem dX10_sent_0 : decode cX10_sent 0 = .ok (.iload_n 1, 1) := by decide +kernel
theorem dX10_sent_1 : decode cX10_sent 1 = .ok (.iconst 1, 1) := by decide +kernel
theorem dX10_sent_2 : decode cX10_sent 2 = .ok (.bipush 30, 2) := by decide +kernel
theorem dX10_sent_4 : decode cX10_sent 4 = .ok (.invokestatic 79, 3) := by decide +kernel
theorem dX10_sent_7 : decode cX10_sent 7 = .ok (.ifCond .eq 12, 3) := by decide +kernel
theorem dX10_sent_10 : decode cX10_sent 10 = .ok (.iload_n 2, 1) := by decide +kernel
theorem dX10_sent_11 : decode cX10_sent 11 = .ok (.iconst 0, 1) := by decide +kernel
theorem dX10_sent_12 : decode cX10_sent 12 = .ok (.iconst 2, 1) := by decide +kernel
theorem dX10_sent_13 : decode cX10_sent 13 = .ok (.invokestatic 79, 3) := by decide +kernel
theorem dX10_sent_16 : decode cX10_sent 16 = .ok (.ifCond .ne 6, 3) := by decide +kernel
theorem dX10_sent_19 : decode cX10_sent 19 = .ok (.ldc 91, 2) := by decide +kernel
theorem dX10_sent_21 : decode cX10_sent 21 = .ok (.ireturn, 1) := by decide +kernel
theorem dX10_sent_22 : decode cX10_sent 22 = .ok (.aload_n 0, 1) := by decide +kernel
theorem dX10_sent_23 : decode cX10_sent 23 = .ok (.invokevirtual 174, 3) := by decide +kernel
theorem dX10_sent_26 : decode cX10_sent 26 = .ok (.iconst 0, 1) := by decide +kernel
theorem dX10_sent_27 : decode cX10_sent 27 = .ok (.istore_n 3, 1) := by decide +kernel
theorem dX10_sent_28 : decode cX10_sent 28 = .ok (.iconst (-1), 1) := by decide +kernel
theorem dX10_sent_29 : decode cX10_sent 29 = .ok (.istore 4, 2) := by decide +kernel
theorem dX10_sent_31 : decode cX10_sent 31 = .ok (.iconst 0, 1) := by decide +kernel
theorem dX10_sent_32 : decode cX10_sent 32 = .ok (.istore 5, 2) := by decide +kernel
theorem dX10_sent_34 : decode cX10_sent 34 = .ok (.iload 5, 2) := by decide +kernel
theorem dX10_sent_36 : decode cX10_sent 36 = .ok (.bipush 24, 2) := by decide +kernel
theorem dX10_sent_38 : decode cX10_sent 38 = .ok (.if_icmp .ge 64, 3) := by decide +kernel
theorem dX10_sent_41 : decode cX10_sent 41 = .ok (.aload_n 0, 1) := by decide +kernel
theorem dX10_sent_42 : decode cX10_sent 42 = .ok (.getfield 9, 3) := by decide +kernel
theorem dX10_sent_45 : decode cX10_sent 45 = .ok (.bipush 8, 2) := by decide +kernel
theorem dX10_sent_47 : decode cX10_sent 47 = .ok (.iconst 2, 1) := by decide +kernel
theorem dX10_sent_48 : decode cX10_sent 48 = .ok (.iload 5, 2) := by decide +kernel
theorem dX10_sent_50 : decode cX10_sent 50 = .ok (.iconst 4, 1) := by decide +kernel
theorem dX10_sent_51 : decode cX10_sent 51 = .ok (.idiv, 1) := by decide +kernel
theorem dX10_sent_52 : decode cX10_sent 52 = .ok (.imul, 1) := by decide +kernel
theorem dX10_sent_53 : decode cX10_sent 53 = .ok (.iadd, 1) := by decide +kernel
theorem dX10_sent_54 : decode cX10_sent 54 = .ok (.iload 5, 2) := by decide +kernel
theorem dX10_sent_56 : decode cX10_sent 56 = .ok (.iconst 4, 1) := by decide +kernel
theorem dX10_sent_57 : decode cX10_sent 57 = .ok (.irem, 1) := by decide +kernel
theorem dX10_sent_58 : decode cX10_sent 58 = .ok (.iastore, 1) := by decide +kernel
theorem dX10_sent_59 : decode cX10_sent 59 = .ok (.aload_n 0, 1) := by decide +kernel
theorem dX10_sent_60 : decode cX10_sent 60 = .ok (.iload_n 1, 1) := by decide +kernel
theorem dX10_sent_61 : decode cX10_sent 61 = .ok (.invokevirtual 183, 3) := by decide +kernel
theorem dX10_sent_64 : decode cX10_sent 64 = .ok (.istore 6, 2) := by decide +kernel
theorem dX10_sent_66 : decode cX10_sent 66 = .ok (.iload 6, 2) := by decide +kernel
theorem dX10_sent_68 : decode cX10_sent 68 = .ok (.iload 4, 2) := by decide +kernel
theorem dX10_sent_70 : decode cX10_sent 70 = .ok (.if_icmp .le 8, 3) := by decide +kernel
theorem dX10_sent_73 : decode cX10_sent 73 = .ok (.iload 5, 2) := by decide +kernel
theorem dX10_sent_75 : decode cX10_sent 75 = .ok (.goto 4, 3) := by decide +kernel
theorem dX10_sent_78 : decode cX10_sent 78 = .ok (.iload_n 3, 1) := by decide +kernel
theorem dX10_sent_79 : decode cX10_sent 79 = .ok (.istore_n 3, 1) := by decide +kernel
theorem dX10_sent_80 : decode cX10_sent 80 = .ok (.iload 6, 2) := by decide +kernel
theorem dX10_sent_82 : decode cX10_sent 82 = .ok (.iload 4, 2) := by decide +kernel
theorem dX10_sent_84 : decode cX10_sent 84 = .ok (.if_icmp .le 8, 3) := by decide +kernel
theorem dX10_sent_87 : decode cX10_sent 87 = .ok (.iload 6, 2) := by decide +kernel
theorem dX10_sent_89 : decode cX10_sent 89 = .ok (.goto 5, 3) := by decide +kernel
theorem dX10_sent_92 : decode cX10_sent 92 = .ok (.iload 4, 2) := by decide +kernel
theorem dX10_sent_94 : decode cX10_sent 94 = .ok (.istore 4, 2) := by decide +kernel
theorem dX10_sent_96 : decode cX10_sent 96 = .ok (.iinc 5 1, 3) := by decide +kernel
theorem dX10_sent_99 : decode cX10_sent 99 = .ok (.goto (-65), 3) := by decide +kernel
theorem dX10_sent_102 : decode cX10_sent 102 = .ok (.iload_n 2, 1) := by decide +kernel
theorem dX10_sent_103 : decode cX10_sent 103 = .ok (.ifCond .ne 9, 3) := by decide +kernel
theorem dX10_sent_106 : decode cX10_sent 106 = .ok (.iload_n 3, 1) := by decide +kernel
theorem dX10_sent_107 : decode cX10_sent 107 = .ok (.iconst 4, 1) := by decide +kernel
theorem dX10_sent_108 : decode cX10_sent 108 = .ok (.idiv, 1) := by decide +kernel
theorem dX10_sent_109 : decode cX10_sent 109 = .ok (.goto 16, 3) := by decide +kernel
theorem dX10_sent_112 : decode cX10_sent 112 = .ok (.iload_n 2, 1) := by decide +kernel
theorem dX10_sent_113 : decode cX10_sent 113 = .ok (.iconst 1, 1) := by decide +kernel
theorem dX10_sent_114 : decode cX10_sent 114 = .ok (.if_icmp .ne 9, 3) := by decide +kernel
theorem dX10_sent_117 : decode cX10_sent 117 = .ok (.iload_n 3, 1) := by decide +kernel
theorem dX10_sent_118 : decode cX10_sent 118 = .ok (.iconst 4, 1) := by decide +kernel
theorem dX10_sent_119 : decode cX10_sent 119 = .ok (.irem, 1) := by decide +kernel
theorem dX10_sent_120 : decode cX10_sent 120 = .ok (.goto 5, 3) := by decide +kernel
theorem dX10_sent_123 : decode cX10_sent 123 = .ok (.iload 4, 2) := by decide +kernel
theorem dX10_sent_125 : decode cX10_sent 125 = .ok (.ireturn, 1) := by decide +kernel
abbrev x_X10_sent (E : mh_E) (d mc ms : Nat) (Post : Option Value → mh_H → Prop) : mh_X := (E, yX10_sent, cX10_sent, 7, (some .int), d, mc, ms, Post)
def q_X10_sent_125 (X : mh_X) : mh_PR := s_iret X
theorem b_X10_sent_125 {E : mh_E} {d mc ms : Nat} {Post : Option Value → mh_H → Prop} : mh_S (x_X10_sent E d mc ms Post) 125 (q_X10_sent_125 (x_X10_sent E d mc ms Post)) := sn_iret rfl dX10_sent_125
def q_X10_sent_94 (X : mh_X) : mh_PR := s_is 4 (s_inc 5 (1) (mh_G X 34))
theorem b_X10_sent_94 {E : mh_E} {d mc ms : Nat} {Post : Option Value → mh_H → Prop} : mh_S (x_X10_sent E d mc ms Post) 94 (q_X10_sent_94 (x_X10_sent E d mc ms Post)) := sn_istore dX10_sent_94 (Nat.le_of_ble_eq_true rfl) (sn_iinc dX10_sent_96 (by decide) (Nat.le_of_ble_eq_true rfl) (sn_goto (tgt := 34) dX10_sent_99 (by decide) (mh_S.G)))
def q_X10_sent_79 (X : mh_X) : mh_PR := s_is 3 (s_il 6 (s_il 4 (s_if2 (fun x y => x ≤ y) (s_il 4 (q_X10_sent_94 X)) (s_il 6 (q_X10_sent_94 X)))))
theorem b_X10_sent_79 {E : mh_E} {d mc ms : Nat} {Post : Option Value → mh_H → Prop} : mh_S (x_X10_sent E d mc ms Post) 79 (q_X10_sent_79 (x_X10_sent E d mc ms Post)) := sn_istore_n dX10_sent_79 rfl (Nat.le_of_ble_eq_true rfl) (sn_iload dX10_sent_80 (sn_iload dX10_sent_82 (sn_icmp_le (tgt := 92) dX10_sent_84 (by decide) (sn_iload dX10_sent_92 b_X10_sent_94) (sn_iload dX10_sent_87 (sn_goto (tgt := 94) dX10_sent_89 (by decide) (b_X10_sent_94))))))
def q_X10_sent_34 (X : mh_X) : mh_PR := s_il 5 (s_push (.int (24)) (s_if2 (fun x y => y ≤ x) (s_il 2 (s_if1 (fun x => ¬ x = 0) (s_il 2 (s_push (.int (1)) (s_if2 (fun x y => ¬ x = y) (s_il 4 (q_X10_sent_125 X)) (s_il 3 (s_push (.int (4)) (s_div mh_rem (q_X10_sent_125 X))))))) (s_il 3 (s_push (.int (4)) (s_div (fun x y => x / y) (q_X10_sent_125 X)))))) (s_al 0 (s_gr 10 0 (s_push (.int (8)) (s_push (.int (2)) (s_il 5 (s_push (.int (4)) (s_div (fun x y => x / y) (s_bin (fun x y => x * y) (s_bin (fun x y => x + y) (s_il 5 (s_push (.int (4)) (s_div mh_rem (s_ast 0 (fun x => x) (s_al 0 (s_il 1 (s_cv X yX10_fulfilledBehind 10 1 (s_is 6 (s_il 6 (s_il 4 (s_if2 (fun x y => x ≤ y) (s_il 3 (q_X10_sent_79 X)) (s_il 5 (q_X10_sent_79 X))))))))))))))))))))))))
theorem b_X10_sent_34 {E : mh_E} {d mc ms : Nat} {Post : Option Value → mh_H → Prop} : mh_S (x_X10_sent E d mc ms Post) 34 (q_X10_sent_34 (x_X10_sent E d mc ms Post)) := sn_iload dX10_sent_34 (sn_bipush dX10_sent_36 (by decide) (sn_icmp_ge (tgt := 102) dX10_sent_38 (by decide) (sn_iload_n dX10_sent_102 rfl (sn_if_ne (tgt := 112) dX10_sent_103 (by decide) (sn_iload_n dX10_sent_112 rfl (sn_iconst dX10_sent_113 (by decide) (sn_icmp_ne (tgt := 123) dX10_sent_114 (by decide) (sn_iload dX10_sent_123 b_X10_sent_125) (sn_iload_n dX10_sent_117 rfl (sn_iconst dX10_sent_118 (by decide) (sn_irem dX10_sent_119 (sn_goto (tgt := 125) dX10_sent_120 (by decide) (b_X10_sent_125)))))))) (sn_iload_n dX10_sent_106 rfl (sn_iconst dX10_sent_107 (by decide) (sn_idiv dX10_sent_108 (sn_goto (tgt := 125) dX10_sent_109 (by decide) (b_X10_sent_125))))))) (sn_aload_n dX10_sent_41 rfl (sn_getr clX10 (by decide) w_1100 dX10_sent_42 (sn_bipush dX10_sent_45 (by decide) (sn_iconst dX10_sent_47 (by decide) (sn_iload dX10_sent_48 (sn_iconst dX10_sent_50 (by decide) (sn_idiv dX10_sent_51 (sn_imul dX10_sent_52 (sn_iadd dX10_sent_53 (sn_iload dX10_sent_54 (sn_iconst dX10_sent_56 (by decide) (sn_irem dX10_sent_57 (sn_iastore dX10_sent_58 (sn_aload_n dX10_sent_59 rfl (sn_iload_n dX10_sent_60 rfl (sn_cv w_1402 w_1404 w_44 w_66 rfl nm_X10_fulfilledBehind dX10_sent_61 (sn_istore dX10_sent_64 (Nat.le_of_ble_eq_true rfl) (sn_iload dX10_sent_66 (sn_iload dX10_sent_68 (sn_icmp_le (tgt := 78) dX10_sent_70 (by decide) (sn_iload_n dX10_sent_78 rfl b_X10_sent_79) (sn_iload dX10_sent_73 (sn_goto (tgt := 79) dX10_sent_75 (by decide) (b_X10_sent_79)))))))))))))))))))))))))
def q_X10_sent_19 (X : mh_X) : mh_PR := s_push (.int (-1000000001)) (s_iret X)
theorem b_X10_sent_19 {E : mh_E} {d mc ms : Nat} {Post : Option Value → mh_H → Prop} : mh_S (x_X10_sent E d mc ms Post) 19 (q_X10_sent_19 (x_X10_sent E d mc ms Post)) := sn_ldc dX10_sent_19 w_1216 (sn_iret rfl dX10_sent_21)
def q_X10_sent_0 (X : mh_X) : mh_PR := s_il 1 (s_push (.int (1)) (s_push (.int (30)) (s_cs X yX10_in 3 (s_if1 (fun x => x = 0) (q_X10_sent_19 X) (s_il 2 (s_push (.int (0)) (s_push (.int (2)) (s_cs X yX10_in 3 (s_if1 (fun x => ¬ x = 0) (s_al 0 (s_cv X yX10_thinks 10 0 (s_push (.int (0)) (s_is 3 (s_push (.int (-1)) (s_is 4 (s_push (.int (0)) (s_is 5 (mh_G X 34))))))))) (q_X10_sent_19 X))))))))))
theorem b_X10_sent_0 {E : mh_E} {d mc ms : Nat} {Post : Option Value → mh_H → Prop} : mh_S (x_X10_sent E d mc ms Post) 0 (q_X10_sent_0 (x_X10_sent E d mc ms Post)) := sn_iload_n dX10_sent_0 rfl (sn_iconst dX10_sent_1 (by decide) (sn_bipush dX10_sent_2 (by decide) (sn_cs w_1210 w_1211 w_66 nm_X10_in dX10_sent_4 (sn_if_eq (tgt := 19) dX10_sent_7 (by decide) (b_X10_sent_19) (sn_iload_n dX10_sent_10 rfl (sn_iconst dX10_sent_11 (by decide) (sn_iconst dX10_sent_12 (by decide) (sn_cs w_1210 w_1211 w_66 nm_X10_in dX10_sent_13 (sn_if_ne (tgt := 22) dX10_sent_16 (by decide) (sn_aload_n dX10_sent_22 rfl (sn_cv w_1374 w_1376 w_41 w_66 rfl nm_X10_thinks dX10_sent_23 (sn_iconst dX10_sent_26 (by decide) (sn_istore_n dX10_sent_27 rfl (Nat.le_of_ble_eq_true rfl) (sn_iconst dX10_sent_28 (by decide) (sn_istore dX10_sent_29 (Nat.le_of_ble_eq_true rfl) (sn_iconst dX10_sent_31 (by decide) (sn_istore dX10_sent_32 (Nat.le_of_ble_eq_true rfl) mh_S.G)))))))) (b_X10_sent_19))))))))))
theorem m_X10_sent {E : mh_E} {d mc ms : Nat} {args : List Value} {h : mh_H} {Post : Option Value → mh_H → Prop} (lv : List (Option Value)) (hl : lv_args 0 args = mh_al 0 lv) (hs : (lg_sl args).length ≤ 7) (hG : q_X10_sent_0 (x_X10_sent E d mc ms Post) lv [] h 0 0) : mh_M E d mc ms yX10_sent args h Post := mh_M.of w_1401 (by decide) (by decide) hl hs (b_X10_sent_0 _ _ _ _ _ hG)
theorem dX10_scrap_0 : decode cX10_scrap 0 = .ok (.iload_n 1, 1) := by decide +kernel
theorem dX10_scrap_1 : decode cX10_scrap 1 = .ok (.iconst 1, 1) := by decide +kernel
theorem dX10_scrap_2 : decode cX10_scrap 2 = .ok (.bipush 60, 2) := by decide +kernel
theorem dX10_scrap_4 : decode cX10_scrap 4 = .ok (.invokestatic 79, 3) := by decide +kernel
theorem dX10_scrap_7 : decode cX10_scrap 7 = .ok (.ifCond .eq 12, 3) := by decide +kernel
theorem dX10_scrap_10 : decode cX10_scrap 10 = .ok (.iload_n 2, 1) := by decide +kernel
theorem dX10_scrap_11 : decode cX10_scrap 11 = .ok (.iconst 0, 1) := by decide +kernel
theorem dX10_scrap_12 : decode cX10_scrap 12 = .ok (.iconst 1, 1) := by decide +kernel
theorem dX10_scrap_13 : decode cX10_scrap 13 = .ok (.invokestatic 79, 3) := by decide +kernel
theorem dX10_scrap_16 : decode cX10_scrap 16 = .ok (.ifCond .ne 6, 3) := by decide +kernel
theorem dX10_scrap_19 : decode cX10_scrap 19 = .ok (.ldc 91, 2) := by decide +kernel
theorem dX10_scrap_21 : decode cX10_scrap 21 = .ok (.ireturn, 1) := by decide +kernel
theorem dX10_scrap_22 : decode cX10_scrap 22 = .ok (.aload_n 0, 1) := by decide +kernel
theorem dX10_scrap_23 : decode cX10_scrap 23 = .ok (.invokevirtual 174, 3) := by decide +kernel
theorem dX10_scrap_26 : decode cX10_scrap 26 = .ok (.iconst (-1), 1) := by decide +kernel
theorem dX10_scrap_27 : decode cX10_scrap 27 = .ok (.istore_n 3, 1) := by decide +kernel
theorem dX10_scrap_28 : decode cX10_scrap 28 = .ok (.iconst 0, 1) := by decide +kernel
theorem dX10_scrap_29 : decode cX10_scrap 29 = .ok (.istore 4, 2) := by decide +kernel
theorem dX10_scrap_31 : decode cX10_scrap 31 = .ok (.iconst 0, 1) := by decide +kernel
theorem dX10_scrap_32 : decode cX10_scrap 32 = .ok (.istore 5, 2) := by decide +kernel
theorem dX10_scrap_34 : decode cX10_scrap 34 = .ok (.iload 5, 2) := by decide +kernel
theorem dX10_scrap_36 : decode cX10_scrap 36 = .ok (.aload_n 0, 1) := by decide +kernel
theorem dX10_scrap_37 : decode cX10_scrap 37 = .ok (.getfield 9, 3) := by decide +kernel
theorem dX10_scrap_40 : decode cX10_scrap 40 = .ok (.iconst 1, 1) := by decide +kernel
theorem dX10_scrap_41 : decode cX10_scrap 41 = .ok (.iaload, 1) := by decide +kernel
theorem dX10_scrap_42 : decode cX10_scrap 42 = .ok (.if_icmp .ge 52, 3) := by decide +kernel
theorem dX10_scrap_45 : decode cX10_scrap 45 = .ok (.aload_n 0, 1) := by decide +kernel
theorem dX10_scrap_46 : decode cX10_scrap 46 = .ok (.iload 5, 2) := by decide +kernel
theorem dX10_scrap_48 : decode cX10_scrap 48 = .ok (.iconst 5, 1) := by decide +kernel
theorem dX10_scrap_49 : decode cX10_scrap 49 = .ok (.iconst 0, 1) := by decide +kernel
theorem dX10_scrap_50 : decode cX10_scrap 50 = .ok (.invokevirtual 83, 3) := by decide +kernel
theorem dX10_scrap_53 : decode cX10_scrap 53 = .ok (.aload_n 0, 1) := by decide +kernel
theorem dX10_scrap_54 : decode cX10_scrap 54 = .ok (.iload_n 1, 1) := by decide +kernel
theorem dX10_scrap_55 : decode cX10_scrap 55 = .ok (.invokevirtual 165, 3) := by decide +kernel
theorem dX10_scrap_58 : decode cX10_scrap 58 = .ok (.aload_n 0, 1) := by decide +kernel
theorem dX10_scrap_59 : decode cX10_scrap 59 = .ok (.getfield 9, 3) := by decide +kernel
theorem dX10_scrap_62 : decode cX10_scrap 62 = .ok (.iconst 5, 1) := by decide +kernel
theorem dX10_scrap_63 : decode cX10_scrap 63 = .ok (.iaload, 1) := by decide +kernel
theorem dX10_scrap_64 : decode cX10_scrap 64 = .ok (.istore 6, 2) := by decide +kernel
theorem dX10_scrap_66 : decode cX10_scrap 66 = .ok (.aload_n 0, 1) := by decide +kernel
theorem dX10_scrap_67 : decode cX10_scrap 67 = .ok (.invokevirtual 180, 3) := by decide +kernel
theorem dX10_scrap_70 : decode cX10_scrap 70 = .ok (.iload_n 3, 1) := by decide +kernel
theorem dX10_scrap_71 : decode cX10_scrap 71 = .ok (.ifCond .lt 10, 3) := by decide +kernel
theorem dX10_scrap_74 : decode cX10_scrap 74 = .ok (.iload 6, 2) := by decide +kernel
theorem dX10_scrap_76 : decode cX10_scrap 76 = .ok (.iload 4, 2) := by decide +kernel
theorem dX10_scrap_78 : decode cX10_scrap 78 = .ok (.if_icmp .ge 10, 3) := by decide +kernel
theorem dX10_scrap_81 : decode cX10_scrap 81 = .ok (.iload 5, 2) := by decide +kernel
theorem dX10_scrap_83 : decode cX10_scrap 83 = .ok (.istore_n 3, 1) := by decide +kernel
theorem dX10_scrap_84 : decode cX10_scrap 84 = .ok (.iload 6, 2) := by decide +kernel
theorem dX10_scrap_86 : decode cX10_scrap 86 = .ok (.istore 4, 2) := by decide +kernel
theorem dX10_scrap_88 : decode cX10_scrap 88 = .ok (.iinc 5 1, 3) := by decide +kernel
theorem dX10_scrap_91 : decode cX10_scrap 91 = .ok (.goto (-57), 3) := by decide +kernel
theorem dX10_scrap_94 : decode cX10_scrap 94 = .ok (.iload_n 3, 1) := by decide +kernel
theorem dX10_scrap_95 : decode cX10_scrap 95 = .ok (.ifCond .ge 8, 3) := by decide +kernel
theorem dX10_scrap_98 : decode cX10_scrap 98 = .ok (.ldc 126, 2) := by decide +kernel
theorem dX10_scrap_100 : decode cX10_scrap 100 = .ok (.goto 13, 3) := by decide +kernel
theorem dX10_scrap_103 : decode cX10_scrap 103 = .ok (.iload_n 2, 1) := by decide +kernel
theorem dX10_scrap_104 : decode cX10_scrap 104 = .ok (.ifCond .ne 7, 3) := by decide +kernel
theorem dX10_scrap_107 : decode cX10_scrap 107 = .ok (.iload_n 3, 1) := by decide +kernel
theorem dX10_scrap_108 : decode cX10_scrap 108 = .ok (.goto 5, 3) := by decide +kernel
theorem dX10_scrap_111 : decode cX10_scrap 111 = .ok (.iload 4, 2) := by decide +kernel
theorem dX10_scrap_113 : decode cX10_scrap 113 = .ok (.ireturn, 1) := by decide +kernel
abbrev x_X10_scrap (E : mh_E) (d mc ms : Nat) (Post : Option Value → mh_H → Prop) : mh_X := (E, yX10_scrap, cX10_scrap, 7, (some .int), d, mc, ms, Post)
def q_X10_scrap_113 (X : mh_X) : mh_PR := s_iret X
theorem b_X10_scrap_113 {E : mh_E} {d mc ms : Nat} {Post : Option Value → mh_H → Prop} : mh_S (x_X10_scrap E d mc ms Post) 113 (q_X10_scrap_113 (x_X10_scrap E d mc ms Post)) := sn_iret rfl dX10_scrap_113
def q_X10_scrap_88 (X : mh_X) : mh_PR := s_inc 5 (1) (mh_G X 34)
theorem b_X10_scrap_88 {E : mh_E} {d mc ms : Nat} {Post : Option Value → mh_H → Prop} : mh_S (x_X10_scrap E d mc ms Post) 88 (q_X10_scrap_88 (x_X10_scrap E d mc ms Post)) := sn_iinc dX10_scrap_88 (by decide) (Nat.le_of_ble_eq_true rfl) (sn_goto (tgt := 34) dX10_scrap_91 (by decide) (mh_S.G))
def q_X10_scrap_81 (X : mh_X) : mh_PR := s_il 5 (s_is 3 (s_il 6 (s_is 4 (q_X10_scrap_88 X))))
theorem b_X10_scrap_81 {E : mh_E} {d mc ms : Nat} {Post : Option Value → mh_H → Prop} : mh_S (x_X10_scrap E d mc ms Post) 81 (q_X10_scrap_81 (x_X10_scrap E d mc ms Post)) := sn_iload dX10_scrap_81 (sn_istore_n dX10_scrap_83 rfl (Nat.le_of_ble_eq_true rfl) (sn_iload dX10_scrap_84 (sn_istore dX10_scrap_86 (Nat.le_of_ble_eq_true rfl) b_X10_scrap_88)))
def q_X10_scrap_34 (X : mh_X) : mh_PR := s_il 5 (s_al 0 (s_gr 10 0 (s_push (.int (1)) (s_ald 0 (s_if2 (fun x y => y ≤ x) (s_il 3 (s_if1 (fun x => 0 ≤ x) (s_il 2 (s_if1 (fun x => ¬ x = 0) (s_il 4 (q_X10_scrap_113 X)) (s_il 3 (q_X10_scrap_113 X)))) (s_push (.int (-1000000005)) (q_X10_scrap_113 X)))) (s_al 0 (s_il 5 (s_push (.int (5)) (s_push (.int (0)) (s_cv X yX10_put 10 3 (s_al 0 (s_il 1 (s_cv X yX10_goesOn 10 1 (s_al 0 (s_gr 10 0 (s_push (.int (5)) (s_ald 0 (s_is 6 (s_al 0 (s_cv X yX10_putsBack 10 0 (s_il 3 (s_if1 (fun x => x < 0) (q_X10_scrap_81 X) (s_il 6 (s_il 4 (s_if2 (fun x y => y ≤ x) (q_X10_scrap_88 X) (q_X10_scrap_81 X))))))))))))))))))))))))))
theorem b_X10_scrap_34 {E : mh_E} {d mc ms : Nat} {Post : Option Value → mh_H → Prop} : mh_S (x_X10_scrap E d mc ms Post) 34 (q_X10_scrap_34 (x_X10_scrap E d mc ms Post)) := sn_iload dX10_scrap_34 (sn_aload_n dX10_scrap_36 rfl (sn_getr clX10 (by decide) w_1100 dX10_scrap_37 (sn_iconst dX10_scrap_40 (by decide) (sn_iaload dX10_scrap_41 (sn_icmp_ge (tgt := 94) dX10_scrap_42 (by decide) (sn_iload_n dX10_scrap_94 rfl (sn_if_ge (tgt := 103) dX10_scrap_95 (by decide) (sn_iload_n dX10_scrap_103 rfl (sn_if_ne (tgt := 111) dX10_scrap_104 (by decide) (sn_iload dX10_scrap_111 b_X10_scrap_113) (sn_iload_n dX10_scrap_107 rfl (sn_goto (tgt := 113) dX10_scrap_108 (by decide) (b_X10_scrap_113))))) (sn_ldc dX10_scrap_98 w_1238 (sn_goto (tgt := 113) dX10_scrap_100 (by decide) (b_X10_scrap_113))))) (sn_aload_n dX10_scrap_45 rfl (sn_iload dX10_scrap_46 (sn_iconst dX10_scrap_48 (by decide) (sn_iconst dX10_scrap_49 (by decide) (sn_cv w_1222 w_1224 w_22 w_66 rfl nm_X10_put dX10_scrap_50 (sn_aload_n dX10_scrap_53 rfl (sn_iload_n dX10_scrap_54 rfl (sn_cv w_1346 w_1348 w_36 w_66 rfl nm_X10_goesOn dX10_scrap_55 (sn_aload_n dX10_scrap_58 rfl (sn_getr clX10 (by decide) w_1100 dX10_scrap_59 (sn_iconst dX10_scrap_62 (by decide) (sn_iaload dX10_scrap_63 (sn_istore dX10_scrap_64 (Nat.le_of_ble_eq_true rfl) (sn_aload_n dX10_scrap_66 rfl (sn_cv w_1382 w_1384 w_43 w_66 rfl nm_X10_putsBack dX10_scrap_67 (sn_iload_n dX10_scrap_70 rfl (sn_if_lt (tgt := 81) dX10_scrap_71 (by decide) (b_X10_scrap_81) (sn_iload dX10_scrap_74 (sn_iload dX10_scrap_76 (sn_icmp_ge (tgt := 88) dX10_scrap_78 (by decide) (b_X10_scrap_88) (b_X10_scrap_81))))))))))))))))))))))))))
def q_X10_scrap_19 (X : mh_X) : mh_PR := s_push (.int (-1000000001)) (s_iret X)
theorem b_X10_scrap_19 {E : mh_E} {d mc ms : Nat} {Post : Option Value → mh_H → Prop} : mh_S (x_X10_scrap E d mc ms Post) 19 (q_X10_scrap_19 (x_X10_scrap E d mc ms Post)) := sn_ldc dX10_scrap_19 w_1216 (sn_iret rfl dX10_scrap_21)
def q_X10_scrap_0 (X : mh_X) : mh_PR := s_il 1 (s_push (.int (1)) (s_push (.int (60)) (s_cs X yX10_in 3 (s_if1 (fun x => x = 0) (q_X10_scrap_19 X) (s_il 2 (s_push (.int (0)) (s_push (.int (1)) (s_cs X yX10_in 3 (s_if1 (fun x => ¬ x = 0) (s_al 0 (s_cv X yX10_thinks 10 0 (s_push (.int (-1)) (s_is 3 (s_push (.int (0)) (s_is 4 (s_push (.int (0)) (s_is 5 (mh_G X 34))))))))) (q_X10_scrap_19 X))))))))))
theorem b_X10_scrap_0 {E : mh_E} {d mc ms : Nat} {Post : Option Value → mh_H → Prop} : mh_S (x_X10_scrap E d mc ms Post) 0 (q_X10_scrap_0 (x_X10_scrap E d mc ms Post)) := sn_iload_n dX10_scrap_0 rfl (sn_iconst dX10_scrap_1 (by decide) (sn_bipush dX10_scrap_2 (by decide) (sn_cs w_1210 w_1211 w_66 nm_X10_in dX10_scrap_4 (sn_if_eq (tgt := 19) dX10_scrap_7 (by decide) (b_X10_scrap_19) (sn_iload_n dX10_scrap_10 rfl (sn_iconst dX10_scrap_11 (by decide) (sn_iconst dX10_scrap_12 (by decide) (sn_cs w_1210 w_1211 w_66 nm_X10_in dX10_scrap_13 (sn_if_ne (tgt := 22) dX10_scrap_16 (by decide) (sn_aload_n dX10_scrap_22 rfl (sn_cv w_1374 w_1376 w_41 w_66 rfl nm_X10_thinks dX10_scrap_23 (sn_iconst dX10_scrap_26 (by decide) (sn_istore_n dX10_scrap_27 rfl (Nat.le_of_ble_eq_true rfl) (sn_iconst dX10_scrap_28 (by decide) (sn_istore dX10_scrap_29 (Nat.le_of_ble_eq_true rfl) (sn_iconst dX10_scrap_31 (by decide) (sn_istore dX10_scrap_32 (Nat.le_of_ble_eq_true rfl) mh_S.G)))))))) (b_X10_scrap_19))))))))))
theorem m_X10_scrap {E : mh_E} {d mc ms : Nat} {args : List Value} {h : mh_H} {Post : Option Value → mh_H → Prop} (lv : List (Option Value)) (hl : lv_args 0 args = mh_al 0 lv) (hs : (lg_sl args).length ≤ 7) (hG : q_X10_scrap_0 (x_X10_scrap E d mc ms Post) lv [] h 0 0) : mh_M E d mc ms yX10_scrap args h Post := mh_M.of w_1413 (by decide) (by decide) hl hs (b_X10_scrap_0 _ _ _ _ _ hG)
theorem dX10_whose_0 : decode cX10_whose 0 = .ok (.iload_n 1, 1) := by decide +kernel
theorem dX10_whose_1 : decode cX10_whose 1 = .ok (.invokestatic 186, 3) := by decide +kernel
theorem dX10_whose_4 : decode cX10_whose 4 = .ok (.ifCond .eq 12, 3) := by decide +kernel
theorem dX10_whose_7 : decode cX10_whose 7 = .ok (.iload_n 2, 1) := by decide +kernel
theorem dX10_whose_8 : decode cX10_whose 8 = .ok (.iconst 0, 1) := by decide +kernel
theorem dX10_whose_9 : decode cX10_whose 9 = .ok (.iconst 1, 1) := by decide +kernel
theorem dX10_whose_10 : decode cX10_whose 10 = .ok (.invokestatic 79, 3) := by decide +kernel
theorem dX10_whose_13 : decode cX10_whose 13 = .ok (.ifCond .ne 6, 3) := by decide +kernel
theorem dX10_whose_16 : decode cX10_whose 16 = .ok (.ldc 91, 2) := by decide +kernel
theorem dX10_whose_18 : decode cX10_whose 18 = .ok (.ireturn, 1) := by decide +kernel
theorem dX10_whose_19 : decode cX10_whose 19 = .ok (.aload_n 0, 1) := by decide +kernel
theorem dX10_whose_20 : decode cX10_whose 20 = .ok (.getfield 52, 3) := by decide +kernel
theorem dX10_whose_23 : decode cX10_whose 23 = .ok (.iload_n 1, 1) := by decide +kernel
theorem dX10_whose_24 : decode cX10_whose 24 = .ok (.iaload, 1) := by decide +kernel
theorem dX10_whose_25 : decode cX10_whose 25 = .ok (.ifCond .ge 6, 3) := by decide +kernel
theorem dX10_whose_28 : decode cX10_whose 28 = .ok (.ldc 189, 2) := by decide +kernel
theorem dX10_whose_30 : decode cX10_whose 30 = .ok (.ireturn, 1) := by decide +kernel
theorem dX10_whose_31 : decode cX10_whose 31 = .ok (.aload_n 0, 1) := by decide +kernel
theorem dX10_whose_32 : decode cX10_whose 32 = .ok (.invokevirtual 174, 3) := by decide +kernel
theorem dX10_whose_35 : decode cX10_whose 35 = .ok (.iconst 0, 1) := by decide +kernel
theorem dX10_whose_36 : decode cX10_whose 36 = .ok (.istore_n 3, 1) := by decide +kernel
theorem dX10_whose_37 : decode cX10_whose 37 = .ok (.iload_n 3, 1) := by decide +kernel
theorem dX10_whose_38 : decode cX10_whose 38 = .ok (.bipush 6, 2) := by decide +kernel
theorem dX10_whose_40 : decode cX10_whose 40 = .ok (.if_icmp .ge 16, 3) := by decide +kernel
theorem dX10_whose_43 : decode cX10_whose 43 = .ok (.aload_n 0, 1) := by decide +kernel
theorem dX10_whose_44 : decode cX10_whose 44 = .ok (.getfield 22, 3) := by decide +kernel
theorem dX10_whose_47 : decode cX10_whose 47 = .ok (.iload_n 3, 1) := by decide +kernel
theorem dX10_whose_48 : decode cX10_whose 48 = .ok (.lconst 0, 1) := by decide +kernel
theorem dX10_whose_49 : decode cX10_whose 49 = .ok (.lastore, 1) := by decide +kernel
theorem dX10_whose_50 : decode cX10_whose 50 = .ok (.iinc 3 1, 3) := by decide +kernel
theorem dX10_whose_53 : decode cX10_whose 53 = .ok (.goto (-16), 3) := by decide +kernel
theorem dX10_whose_56 : decode cX10_whose 56 = .ok (.iconst 0, 1) := by decide +kernel
theorem dX10_whose_57 : decode cX10_whose 57 = .ok (.istore_n 3, 1) := by decide +kernel
theorem dX10_whose_58 : decode cX10_whose 58 = .ok (.iload_n 3, 1) := by decide +kernel
theorem dX10_whose_59 : decode cX10_whose 59 = .ok (.aload_n 0, 1) := by decide +kernel
theorem dX10_whose_60 : decode cX10_whose 60 = .ok (.getfield 55, 3) := by decide +kernel
theorem dX10_whose_63 : decode cX10_whose 63 = .ok (.iload_n 1, 1) := by decide +kernel
theorem dX10_whose_64 : decode cX10_whose 64 = .ok (.iaload, 1) := by decide +kernel
theorem dX10_whose_65 : decode cX10_whose 65 = .ok (.if_icmp .ge 91, 3) := by decide +kernel
theorem dX10_whose_68 : decode cX10_whose 68 = .ok (.aload_n 0, 1) := by decide +kernel
theorem dX10_whose_69 : decode cX10_whose 69 = .ok (.getfield 58, 3) := by decide +kernel
theorem dX10_whose_72 : decode cX10_whose 72 = .ok (.bipush 24, 2) := by decide +kernel
theorem dX10_whose_74 : decode cX10_whose 74 = .ok (.iload_n 1, 1) := by decide +kernel
theorem dX10_whose_75 : decode cX10_whose 75 = .ok (.imul, 1) := by decide +kernel
theorem dX10_whose_76 : decode cX10_whose 76 = .ok (.iload_n 3, 1) := by decide +kernel
theorem dX10_whose_77 : decode cX10_whose 77 = .ok (.iadd, 1) := by decide +kernel
theorem dX10_whose_78 : decode cX10_whose 78 = .ok (.iaload, 1) := by decide +kernel
theorem dX10_whose_79 : decode cX10_whose 79 = .ok (.istore 4, 2) := by decide +kernel
theorem dX10_whose_81 : decode cX10_whose 81 = .ok (.iconst 0, 1) := by decide +kernel
theorem dX10_whose_82 : decode cX10_whose 82 = .ok (.istore 5, 2) := by decide +kernel
theorem dX10_whose_84 : decode cX10_whose 84 = .ok (.iload 5, 2) := by decide +kernel
theorem dX10_whose_86 : decode cX10_whose 86 = .ok (.bipush 6, 2) := by decide +kernel
theorem dX10_whose_88 : decode cX10_whose 88 = .ok (.if_icmp .ge 58, 3) := by decide +kernel
theorem dX10_whose_91 : decode cX10_whose 91 = .ok (.iload 4, 2) := by decide +kernel
theorem dX10_whose_93 : decode cX10_whose 93 = .ok (.i2l, 1) := by decide +kernel
theorem dX10_whose_94 : decode cX10_whose 94 = .ok (.aload_n 0, 1) := by decide +kernel
theorem dX10_whose_95 : decode cX10_whose 95 = .ok (.iload 5, 2) := by decide +kernel
theorem dX10_whose_97 : decode cX10_whose 97 = .ok (.invokevirtual 101, 3) := by decide +kernel
theorem dX10_whose_100 : decode cX10_whose 100 = .ok (.i2l, 1) := by decide +kernel
theorem dX10_whose_101 : decode cX10_whose 101 = .ok (.lsub, 1) := by decide +kernel
theorem dX10_whose_102 : decode cX10_whose 102 = .ok (.lstore 6, 2) := by decide +kernel
theorem dX10_whose_104 : decode cX10_whose 104 = .ok (.aload_n 0, 1) := by decide +kernel
theorem dX10_whose_105 : decode cX10_whose 105 = .ok (.getfield 22, 3) := by decide +kernel
theorem dX10_whose_108 : decode cX10_whose 108 = .ok (.iload 5, 2) := by decide +kernel
theorem dX10_whose_110 : decode cX10_whose 110 = .ok (.dup2, 1) := by decide +kernel
theorem dX10_whose_111 : decode cX10_whose 111 = .ok (.laload, 1) := by decide +kernel
theorem dX10_whose_112 : decode cX10_whose 112 = .ok (.iload 4, 2) := by decide +kernel
theorem dX10_whose_114 : decode cX10_whose 114 = .ok (.ldc 126, 2) := by decide +kernel
theorem dX10_whose_116 : decode cX10_whose 116 = .ok (.if_icmp .ne 7, 3) := by decide +kernel
theorem dX10_whose_119 : decode cX10_whose 119 = .ok (.lconst 0, 1) := by decide +kernel
theorem dX10_whose_120 : decode cX10_whose 120 = .ok (.goto 18, 3) := by decide +kernel
theorem dX10_whose_123 : decode cX10_whose 123 = .ok (.lload 6, 2) := by decide +kernel
theorem dX10_whose_125 : decode cX10_whose 125 = .ok (.lconst 0, 1) := by decide +kernel
theorem dX10_whose_126 : decode cX10_whose 126 = .ok (.lcmp, 1) := by decide +kernel
theorem dX10_whose_127 : decode cX10_whose 127 = .ok (.ifCond .ge 9, 3) := by decide +kernel
theorem dX10_whose_130 : decode cX10_whose 130 = .ok (.lload 6, 2) := by decide +kernel
theorem dX10_whose_132 : decode cX10_whose 132 = .ok (.lneg, 1) := by decide +kernel
theorem dX10_whose_133 : decode cX10_whose 133 = .ok (.goto 5, 3) := by decide +kernel
theorem dX10_whose_136 : decode cX10_whose 136 = .ok (.lload 6, 2) := by decide +kernel
theorem dX10_whose_138 : decode cX10_whose 138 = .ok (.ladd, 1) := by decide +kernel
theorem dX10_whose_139 : decode cX10_whose 139 = .ok (.lastore, 1) := by decide +kernel
theorem dX10_whose_140 : decode cX10_whose 140 = .ok (.iinc 5 1, 3) := by decide +kernel
theorem dX10_whose_143 : decode cX10_whose 143 = .ok (.goto (-59), 3) := by decide +kernel
theorem dX10_whose_146 : decode cX10_whose 146 = .ok (.aload_n 0, 1) := by decide +kernel
theorem dX10_whose_147 : decode cX10_whose 147 = .ok (.invokevirtual 156, 3) := by decide +kernel
theorem dX10_whose_150 : decode cX10_whose 150 = .ok (.iinc 3 1, 3) := by decide +kernel
theorem dX10_whose_153 : decode cX10_whose 153 = .ok (.goto (-95), 3) := by decide +kernel
theorem dX10_whose_156 : decode cX10_whose 156 = .ok (.aload_n 0, 1) := by decide +kernel
theorem dX10_whose_157 : decode cX10_whose 157 = .ok (.invokevirtual 180, 3) := by decide +kernel
theorem dX10_whose_160 : decode cX10_whose 160 = .ok (.iconst 0, 1) := by decide +kernel
theorem dX10_whose_161 : decode cX10_whose 161 = .ok (.istore_n 3, 1) := by decide +kernel
theorem dX10_whose_162 : decode cX10_whose 162 = .ok (.iconst 1, 1) := by decide +kernel
theorem dX10_whose_163 : decode cX10_whose 163 = .ok (.istore 4, 2) := by decide +kernel
theorem dX10_whose_165 : decode cX10_whose 165 = .ok (.iload 4, 2) := by decide +kernel
theorem dX10_whose_167 : decode cX10_whose 167 = .ok (.bipush 6, 2) := by decide +kernel
theorem dX10_whose_169 : decode cX10_whose 169 = .ok (.if_icmp .ge 33, 3) := by decide +kernel
theorem dX10_whose_172 : decode cX10_whose 172 = .ok (.aload_n 0, 1) := by decide +kernel
theorem dX10_whose_173 : decode cX10_whose 173 = .ok (.getfield 22, 3) := by decide +kernel
theorem dX10_whose_176 : decode cX10_whose 176 = .ok (.iload 4, 2) := by decide +kernel
theorem dX10_whose_178 : decode cX10_whose 178 = .ok (.laload, 1) := by decide +kernel
theorem dX10_whose_179 : decode cX10_whose 179 = .ok (.aload_n 0, 1) := by decide +kernel
theorem dX10_whose_180 : decode cX10_whose 180 = .ok (.getfield 22, 3) := by decide +kernel
theorem dX10_whose_183 : decode cX10_whose 183 = .ok (.iload_n 3, 1) := by decide +kernel
theorem dX10_whose_184 : decode cX10_whose 184 = .ok (.laload, 1) := by decide +kernel
theorem dX10_whose_185 : decode cX10_whose 185 = .ok (.lcmp, 1) := by decide +kernel
theorem dX10_whose_186 : decode cX10_whose 186 = .ok (.ifCond .ge 8, 3) := by decide +kernel
theorem dX10_whose_189 : decode cX10_whose 189 = .ok (.iload 4, 2) := by decide +kernel
theorem dX10_whose_191 : decode cX10_whose 191 = .ok (.goto 4, 3) := by decide +kernel
theorem dX10_whose_194 : decode cX10_whose 194 = .ok (.iload_n 3, 1) := by decide +kernel
theorem dX10_whose_195 : decode cX10_whose 195 = .ok (.istore_n 3, 1) := by decide +kernel
theorem dX10_whose_196 : decode cX10_whose 196 = .ok (.iinc 4 1, 3) := by decide +kernel
theorem dX10_whose_199 : decode cX10_whose 199 = .ok (.goto (-34), 3) := by decide +kernel
theorem dX10_whose_202 : decode cX10_whose 202 = .ok (.iload_n 2, 1) := by decide +kernel
theorem dX10_whose_203 : decode cX10_whose 203 = .ok (.ifCond .ne 7, 3) := by decide +kernel
theorem dX10_whose_206 : decode cX10_whose 206 = .ok (.iload_n 3, 1) := by decide +kernel
theorem dX10_whose_207 : decode cX10_whose 207 = .ok (.goto 10, 3) := by decide +kernel
theorem dX10_whose_210 : decode cX10_whose 210 = .ok (.aload_n 0, 1) := by decide +kernel
theorem dX10_whose_211 : decode cX10_whose 211 = .ok (.getfield 22, 3) := by decide +kernel
theorem dX10_whose_214 : decode cX10_whose 214 = .ok (.iload_n 3, 1) := by decide +kernel
theorem dX10_whose_215 : decode cX10_whose 215 = .ok (.laload, 1) := by decide +kernel
theorem dX10_whose_216 : decode cX10_whose 216 = .ok (.l2i, 1) := by decide +kernel
theorem dX10_whose_217 : decode cX10_whose 217 = .ok (.ireturn, 1) := by decide +kernel
abbrev x_X10_whose (E : mh_E) (d mc ms : Nat) (Post : Option Value → mh_H → Prop) : mh_X := (E, yX10_whose, cX10_whose, 8, (some .int), d, mc, ms, Post)
def q_X10_whose_217 (X : mh_X) : mh_PR := s_iret X
theorem b_X10_whose_217 {E : mh_E} {d mc ms : Nat} {Post : Option Value → mh_H → Prop} : mh_S (x_X10_whose E d mc ms Post) 217 (q_X10_whose_217 (x_X10_whose E d mc ms Post)) := sn_iret rfl dX10_whose_217
def q_X10_whose_195 (X : mh_X) : mh_PR := s_is 3 (s_inc 4 (1) (mh_G X 165))
theorem b_X10_whose_195 {E : mh_E} {d mc ms : Nat} {Post : Option Value → mh_H → Prop} : mh_S (x_X10_whose E d mc ms Post) 195 (q_X10_whose_195 (x_X10_whose E d mc ms Post)) := sn_istore_n dX10_whose_195 rfl (Nat.le_of_ble_eq_true rfl) (sn_iinc dX10_whose_196 (by decide) (Nat.le_of_ble_eq_true rfl) (sn_goto (tgt := 165) dX10_whose_199 (by decide) (mh_S.G)))
def q_X10_whose_165 (X : mh_X) : mh_PR := s_il 4 (s_push (.int (6)) (s_if2 (fun x y => y ≤ x) (s_il 2 (s_if1 (fun x => ¬ x = 0) (s_al 0 (s_gr 10 5 (s_il 3 (s_lald (s_l2i (q_X10_whose_217 X)))))) (s_il 3 (q_X10_whose_217 X)))) (s_al 0 (s_gr 10 5 (s_il 4 (s_lald (s_al 0 (s_gr 10 5 (s_il 3 (s_lald (s_lcmp (s_if1 (fun x => 0 ≤ x) (s_il 3 (q_X10_whose_195 X)) (s_il 4 (q_X10_whose_195 X))))))))))))))
theorem b_X10_whose_165 {E : mh_E} {d mc ms : Nat} {Post : Option Value → mh_H → Prop} : mh_S (x_X10_whose E d mc ms Post) 165 (q_X10_whose_165 (x_X10_whose E d mc ms Post)) := sn_iload dX10_whose_165 (sn_bipush dX10_whose_167 (by decide) (sn_icmp_ge (tgt := 202) dX10_whose_169 (by decide) (sn_iload_n dX10_whose_202 rfl (sn_if_ne (tgt := 210) dX10_whose_203 (by decide) (sn_aload_n dX10_whose_210 rfl (sn_getr clX10 (by decide) w_1105 dX10_whose_211 (sn_iload_n dX10_whose_214 rfl (sn_laload dX10_whose_215 (sn_l2i dX10_whose_216 b_X10_whose_217))))) (sn_iload_n dX10_whose_206 rfl (sn_goto (tgt := 217) dX10_whose_207 (by decide) (b_X10_whose_217))))) (sn_aload_n dX10_whose_172 rfl (sn_getr clX10 (by decide) w_1105 dX10_whose_173 (sn_iload dX10_whose_176 (sn_laload dX10_whose_178 (sn_aload_n dX10_whose_179 rfl (sn_getr clX10 (by decide) w_1105 dX10_whose_180 (sn_iload_n dX10_whose_183 rfl (sn_laload dX10_whose_184 (sn_lcmp dX10_whose_185 (sn_if_ge (tgt := 194) dX10_whose_186 (by decide) (sn_iload_n dX10_whose_194 rfl b_X10_whose_195) (sn_iload dX10_whose_189 (sn_goto (tgt := 195) dX10_whose_191 (by decide) (b_X10_whose_195)))))))))))))))
def q_X10_whose_138 (X : mh_X) : mh_PR := s_binL (fun x y => x + y) (s_last (s_inc 5 (1) (mh_G X 84)))
theorem b_X10_whose_138 {E : mh_E} {d mc ms : Nat} {Post : Option Value → mh_H → Prop} : mh_S (x_X10_whose E d mc ms Post) 138 (q_X10_whose_138 (x_X10_whose E d mc ms Post)) := sn_ladd dX10_whose_138 (sn_lastore dX10_whose_139 (sn_iinc dX10_whose_140 (by decide) (Nat.le_of_ble_eq_true rfl) (sn_goto (tgt := 84) dX10_whose_143 (by decide) (mh_S.G))))
def q_X10_whose_84 (X : mh_X) : mh_PR := s_il 5 (s_push (.int (6)) (s_if2 (fun x y => y ≤ x) (s_al 0 (s_cv X yX10_year 10 0 (s_inc 3 (1) (mh_G X 58)))) (s_il 4 (s_i2l (s_al 0 (s_il 5 (s_cv X yX10_rankOf 10 1 (s_i2l (s_binL (fun x y => x - y) (s_ls 6 (s_al 0 (s_gr 10 5 (s_il 5 (s_dup2 (s_lald (s_il 4 (s_push (.int (-1000000005)) (s_if2 (fun x y => ¬ x = y) (s_ll 6 (s_push (.long 0) (s_lcmp (s_if1 (fun x => 0 ≤ x) (s_ll 6 (q_X10_whose_138 X)) (s_ll 6 (s_lneg (q_X10_whose_138 X))))))) (s_push (.long 0) (q_X10_whose_138 X))))))))))))))))))))
theorem b_X10_whose_84 {E : mh_E} {d mc ms : Nat} {Post : Option Value → mh_H → Prop} : mh_S (x_X10_whose E d mc ms Post) 84 (q_X10_whose_84 (x_X10_whose E d mc ms Post)) := sn_iload dX10_whose_84 (sn_bipush dX10_whose_86 (by decide) (sn_icmp_ge (tgt := 146) dX10_whose_88 (by decide) (sn_aload_n dX10_whose_146 rfl (sn_cv w_1350 w_1352 w_37 w_66 rfl nm_X10_year dX10_whose_147 (sn_iinc dX10_whose_150 (by decide) (Nat.le_of_ble_eq_true rfl) (sn_goto (tgt := 58) dX10_whose_153 (by decide) (mh_S.G))))) (sn_iload dX10_whose_91 (sn_i2l dX10_whose_93 (sn_aload_n dX10_whose_94 rfl (sn_iload dX10_whose_95 (sn_cv w_1247 w_1249 w_27 w_66 rfl nm_X10_rankOf dX10_whose_97 (sn_i2l dX10_whose_100 (sn_lsub dX10_whose_101 (sn_lstore dX10_whose_102 (Nat.le_of_ble_eq_true rfl) (sn_aload_n dX10_whose_104 rfl (sn_getr clX10 (by decide) w_1105 dX10_whose_105 (sn_iload dX10_whose_108 (sn_dup2 dX10_whose_110 (sn_laload dX10_whose_111 (sn_iload dX10_whose_112 (sn_ldc dX10_whose_114 w_1238 (sn_icmp_ne (tgt := 123) dX10_whose_116 (by decide) (sn_lload dX10_whose_123 (sn_lconst dX10_whose_125 (by decide) (sn_lcmp dX10_whose_126 (sn_if_ge (tgt := 136) dX10_whose_127 (by decide) (sn_lload dX10_whose_136 b_X10_whose_138) (sn_lload dX10_whose_130 (sn_lneg dX10_whose_132 (sn_goto (tgt := 138) dX10_whose_133 (by decide) (b_X10_whose_138)))))))) (sn_lconst dX10_whose_119 (by decide) (sn_goto (tgt := 138) dX10_whose_120 (by decide) (b_X10_whose_138)))))))))))))))))))))
def q_X10_whose_58 (X : mh_X) : mh_PR := s_il 3 (s_al 0 (s_gr 10 25 (s_il 1 (s_ald 0 (s_if2 (fun x y => y ≤ x) (s_al 0 (s_cv X yX10_putsBack 10 0 (s_push (.int (0)) (s_is 3 (s_push (.int (1)) (s_is 4 (mh_G X 165))))))) (s_al 0 (s_gr 10 26 (s_push (.int (24)) (s_il 1 (s_bin (fun x y => x * y) (s_il 3 (s_bin (fun x y => x + y) (s_ald 0 (s_is 4 (s_push (.int (0)) (s_is 5 (mh_G X 84)))))))))))))))))
theorem b_X10_whose_58 {E : mh_E} {d mc ms : Nat} {Post : Option Value → mh_H → Prop} : mh_S (x_X10_whose E d mc ms Post) 58 (q_X10_whose_58 (x_X10_whose E d mc ms Post)) := sn_iload_n dX10_whose_58 rfl (sn_aload_n dX10_whose_59 rfl (sn_getr clX10 (by decide) w_1125 dX10_whose_60 (sn_iload_n dX10_whose_63 rfl (sn_iaload dX10_whose_64 (sn_icmp_ge (tgt := 156) dX10_whose_65 (by decide) (sn_aload_n dX10_whose_156 rfl (sn_cv w_1382 w_1384 w_43 w_66 rfl nm_X10_putsBack dX10_whose_157 (sn_iconst dX10_whose_160 (by decide) (sn_istore_n dX10_whose_161 rfl (Nat.le_of_ble_eq_true rfl) (sn_iconst dX10_whose_162 (by decide) (sn_istore dX10_whose_163 (Nat.le_of_ble_eq_true rfl) mh_S.G)))))) (sn_aload_n dX10_whose_68 rfl (sn_getr clX10 (by decide) w_1126 dX10_whose_69 (sn_bipush dX10_whose_72 (by decide) (sn_iload_n dX10_whose_74 rfl (sn_imul dX10_whose_75 (sn_iload_n dX10_whose_76 rfl (sn_iadd dX10_whose_77 (sn_iaload dX10_whose_78 (sn_istore dX10_whose_79 (Nat.le_of_ble_eq_true rfl) (sn_iconst dX10_whose_81 (by decide) (sn_istore dX10_whose_82 (Nat.le_of_ble_eq_true rfl) mh_S.G))))))))))))))))
def q_X10_whose_37 (X : mh_X) : mh_PR := s_il 3 (s_push (.int (6)) (s_if2 (fun x y => y ≤ x) (s_push (.int (0)) (s_is 3 (mh_G X 58))) (s_al 0 (s_gr 10 5 (s_il 3 (s_push (.long 0) (s_last (s_inc 3 (1) (mh_G X 37)))))))))
theorem b_X10_whose_37 {E : mh_E} {d mc ms : Nat} {Post : Option Value → mh_H → Prop} : mh_S (x_X10_whose E d mc ms Post) 37 (q_X10_whose_37 (x_X10_whose E d mc ms Post)) := sn_iload_n dX10_whose_37 rfl (sn_bipush dX10_whose_38 (by decide) (sn_icmp_ge (tgt := 56) dX10_whose_40 (by decide) (sn_iconst dX10_whose_56 (by decide) (sn_istore_n dX10_whose_57 rfl (Nat.le_of_ble_eq_true rfl) mh_S.G)) (sn_aload_n dX10_whose_43 rfl (sn_getr clX10 (by decide) w_1105 dX10_whose_44 (sn_iload_n dX10_whose_47 rfl (sn_lconst dX10_whose_48 (by decide) (sn_lastore dX10_whose_49 (sn_iinc dX10_whose_50 (by decide) (Nat.le_of_ble_eq_true rfl) (sn_goto (tgt := 37) dX10_whose_53 (by decide) (mh_S.G))))))))))
def q_X10_whose_16 (X : mh_X) : mh_PR := s_push (.int (-1000000001)) (s_iret X)
theorem b_X10_whose_16 {E : mh_E} {d mc ms : Nat} {Post : Option Value → mh_H → Prop} : mh_S (x_X10_whose E d mc ms Post) 16 (q_X10_whose_16 (x_X10_whose E d mc ms Post)) := sn_ldc dX10_whose_16 w_1216 (sn_iret rfl dX10_whose_18)
def q_X10_whose_0 (X : mh_X) : mh_PR := s_il 1 (s_cs X yX10_isSheet 1 (s_if1 (fun x => x = 0) (q_X10_whose_16 X) (s_il 2 (s_push (.int (0)) (s_push (.int (1)) (s_cs X yX10_in 3 (s_if1 (fun x => ¬ x = 0) (s_al 0 (s_gr 10 24 (s_il 1 (s_ald 0 (s_if1 (fun x => 0 ≤ x) (s_al 0 (s_cv X yX10_thinks 10 0 (s_push (.int (0)) (s_is 3 (mh_G X 37))))) (s_push (.int (-1000000011)) (s_iret X))))))) (q_X10_whose_16 X))))))))
theorem b_X10_whose_0 {E : mh_E} {d mc ms : Nat} {Post : Option Value → mh_H → Prop} : mh_S (x_X10_whose E d mc ms Post) 0 (q_X10_whose_0 (x_X10_whose E d mc ms Post)) := sn_iload_n dX10_whose_0 rfl (sn_cs w_1426 w_1427 w_66 nm_X10_isSheet dX10_whose_1 (sn_if_eq (tgt := 16) dX10_whose_4 (by decide) (b_X10_whose_16) (sn_iload_n dX10_whose_7 rfl (sn_iconst dX10_whose_8 (by decide) (sn_iconst dX10_whose_9 (by decide) (sn_cs w_1210 w_1211 w_66 nm_X10_in dX10_whose_10 (sn_if_ne (tgt := 19) dX10_whose_13 (by decide) (sn_aload_n dX10_whose_19 rfl (sn_getr clX10 (by decide) w_1124 dX10_whose_20 (sn_iload_n dX10_whose_23 rfl (sn_iaload dX10_whose_24 (sn_if_ge (tgt := 31) dX10_whose_25 (by decide) (sn_aload_n dX10_whose_31 rfl (sn_cv w_1374 w_1376 w_41 w_66 rfl nm_X10_thinks dX10_whose_32 (sn_iconst dX10_whose_35 (by decide) (sn_istore_n dX10_whose_36 rfl (Nat.le_of_ble_eq_true rfl) mh_S.G)))) (sn_ldc dX10_whose_28 w_1429 (sn_iret rfl dX10_whose_30))))))) (b_X10_whose_16))))))))
theorem m_X10_whose {E : mh_E} {d mc ms : Nat} {args : List Value} {h : mh_H} {Post : Option Value → mh_H → Prop} (lv : List (Option Value)) (hl : lv_args 0 args = mh_al 0 lv) (hs : (lg_sl args).length ≤ 8) (hG : q_X10_whose_0 (x_X10_whose E d mc ms Post) lv [] h 0 0) : mh_M E d mc ms yX10_whose args h Post := mh_M.of w_1425 (by decide) (by decide) hl hs (b_X10_whose_0 _ _ _ _ _ hG)
theorem dX10_trim_0 : decode cX10_trim 0 = .ok (.iload_n 1, 1) := by decide +kernel
theorem dX10_trim_1 : decode cX10_trim 1 = .ok (.iconst 0, 1) := by decide +kernel
theorem dX10_trim_2 : decode cX10_trim 2 = .ok (.aload_n 0, 1) := by decide +kernel
theorem dX10_trim_3 : decode cX10_trim 3 = .ok (.getfield 190, 3) := by decide +kernel
theorem dX10_trim_6 : decode cX10_trim 6 = .ok (.invokestatic 79, 3) := by decide +kernel
theorem dX10_trim_9 : decode cX10_trim 9 = .ok (.ifCond .ne 6, 3) := by decide +kernel
theorem dX10_trim_12 : decode cX10_trim 12 = .ok (.ldc 91, 2) := by decide +kernel
theorem dX10_trim_14 : decode cX10_trim 14 = .ok (.ireturn, 1) := by decide +kernel
theorem dX10_trim_15 : decode cX10_trim 15 = .ok (.aload_n 0, 1) := by decide +kernel
theorem dX10_trim_16 : decode cX10_trim 16 = .ok (.iload_n 1, 1) := by decide +kernel
theorem dX10_trim_17 : decode cX10_trim 17 = .ok (.putfield 190, 3) := by decide +kernel
theorem dX10_trim_20 : decode cX10_trim 20 = .ok (.iload_n 1, 1) := by decide +kernel
theorem dX10_trim_21 : decode cX10_trim 21 = .ok (.ireturn, 1) := by decide +kernel
abbrev x_X10_trim (E : mh_E) (d mc ms : Nat) (Post : Option Value → mh_H → Prop) : mh_X := (E, yX10_trim, cX10_trim, 2, (some .int), d, mc, ms, Post)
def q_X10_trim_0 (X : mh_X) : mh_PR := s_il 1 (s_push (.int (0)) (s_al 0 (s_gi 10 7 (s_cs X yX10_in 3 (s_if1 (fun x => ¬ x = 0) (s_al 0 (s_il 1 (s_pi 10 7 (s_il 1 (s_iret X))))) (s_push (.int (-1000000001)) (s_iret X)))))))
theorem b_X10_trim_0 {E : mh_E} {d mc ms : Nat} {Post : Option Value → mh_H → Prop} : mh_S (x_X10_trim E d mc ms Post) 0 (q_X10_trim_0 (x_X10_trim E d mc ms Post)) := sn_iload_n dX10_trim_0 rfl (sn_iconst dX10_trim_1 (by decide) (sn_aload_n dX10_trim_2 rfl (sn_geti clX10 (by decide) w_1107 dX10_trim_3 (sn_cs w_1210 w_1211 w_66 nm_X10_in dX10_trim_6 (sn_if_ne (tgt := 15) dX10_trim_9 (by decide) (sn_aload_n dX10_trim_15 rfl (sn_iload_n dX10_trim_16 rfl (sn_puti clX10 (by decide) w_1107 rfl rfl dX10_trim_17 (sn_iload_n dX10_trim_20 rfl (sn_iret rfl dX10_trim_21))))) (sn_ldc dX10_trim_12 w_1216 (sn_iret rfl dX10_trim_14)))))))
theorem m_X10_trim {E : mh_E} {d mc ms : Nat} {args : List Value} {h : mh_H} {Post : Option Value → mh_H → Prop} (lv : List (Option Value)) (hl : lv_args 0 args = mh_al 0 lv) (hs : (lg_sl args).length ≤ 2) (hG : q_X10_trim_0 (x_X10_trim E d mc ms Post) lv [] h 0 0) : mh_M E d mc ms yX10_trim args h Post := mh_M.of w_1445 (by decide) (by decide) hl hs (b_X10_trim_0 _ _ _ _ _ hG)
theorem dX10_takesKey_0 : decode cX10_takesKey 0 = .ok (.aload_n 0, 1) := by decide +kernel
theorem dX10_takesKey_1 : decode cX10_takesKey 1 = .ok (.getfield 203, 3) := by decide +kernel
theorem dX10_takesKey_4 : decode cX10_takesKey 4 = .ok (.iconst 1, 1) := by decide +kernel
theorem dX10_takesKey_5 : decode cX10_takesKey 5 = .ok (.if_icmp .eq 5, 3) := by decide +kernel
theorem dX10_takesKey_8 : decode cX10_takesKey 8 = .ok (.iconst 0, 1) := by decide +kernel
theorem dX10_takesKey_9 : decode cX10_takesKey 9 = .ok (.ireturn, 1) := by decide +kernel
theorem dX10_takesKey_10 : decode cX10_takesKey 10 = .ok (.iconst 0, 1) := by decide +kernel
theorem dX10_takesKey_11 : decode cX10_takesKey 11 = .ok (.istore_n 1, 1) := by decide +kernel
theorem dX10_takesKey_12 : decode cX10_takesKey 12 = .ok (.iload_n 1, 1) := by decide +kernel
theorem dX10_takesKey_13 : decode cX10_takesKey 13 = .ok (.iconst 3, 1) := by decide +kernel
theorem dX10_takesKey_14 : decode cX10_takesKey 14 = .ok (.if_icmp .ge 113, 3) := by decide +kernel
theorem dX10_takesKey_17 : decode cX10_takesKey 17 = .ok (.aload_n 0, 1) := by decide +kernel
theorem dX10_takesKey_18 : decode cX10_takesKey 18 = .ok (.getfield 33, 3) := by decide +kernel
theorem dX10_takesKey_21 : decode cX10_takesKey 21 = .ok (.iload_n 1, 1) := by decide +kernel
theorem dX10_takesKey_22 : decode cX10_takesKey 22 = .ok (.iconst 1, 1) := by decide +kernel
theorem dX10_takesKey_23 : decode cX10_takesKey 23 = .ok (.iadd, 1) := by decide +kernel
theorem dX10_takesKey_24 : decode cX10_takesKey 24 = .ok (.iaload, 1) := by decide +kernel
theorem dX10_takesKey_25 : decode cX10_takesKey 25 = .ok (.aload_n 0, 1) := by decide +kernel
theorem dX10_takesKey_26 : decode cX10_takesKey 26 = .ok (.getfield 33, 3) := by decide +kernel
theorem dX10_takesKey_29 : decode cX10_takesKey 29 = .ok (.iload_n 1, 1) := by decide +kernel
theorem dX10_takesKey_30 : decode cX10_takesKey 30 = .ok (.iaload, 1) := by decide +kernel
theorem dX10_takesKey_31 : decode cX10_takesKey 31 = .ok (.isub, 1) := by decide +kernel
theorem dX10_takesKey_32 : decode cX10_takesKey 32 = .ok (.istore_n 2, 1) := by decide +kernel
theorem dX10_takesKey_33 : decode cX10_takesKey 33 = .ok (.iload_n 2, 1) := by decide +kernel
theorem dX10_takesKey_34 : decode cX10_takesKey 34 = .ok (.aload_n 0, 1) := by decide +kernel
theorem dX10_takesKey_35 : decode cX10_takesKey 35 = .ok (.getfield 194, 3) := by decide +kernel
theorem dX10_takesKey_38 : decode cX10_takesKey 38 = .ok (.aload_n 0, 1) := by decide +kernel
theorem dX10_takesKey_39 : decode cX10_takesKey 39 = .ok (.getfield 197, 3) := by decide +kernel
theorem dX10_takesKey_42 : decode cX10_takesKey 42 = .ok (.isub, 1) := by decide +kernel
theorem dX10_takesKey_43 : decode cX10_takesKey 43 = .ok (.if_icmp .ne 7, 3) := by decide +kernel
theorem dX10_takesKey_46 : decode cX10_takesKey 46 = .ok (.iconst 1, 1) := by decide +kernel
theorem dX10_takesKey_47 : decode cX10_takesKey 47 = .ok (.goto 4, 3) := by decide +kernel
theorem dX10_takesKey_50 : decode cX10_takesKey 50 = .ok (.iconst 0, 1) := by decide +kernel
theorem dX10_takesKey_51 : decode cX10_takesKey 51 = .ok (.istore_n 3, 1) := by decide +kernel
theorem dX10_takesKey_52 : decode cX10_takesKey 52 = .ok (.iconst 0, 1) := by decide +kernel
theorem dX10_takesKey_53 : decode cX10_takesKey 53 = .ok (.istore 4, 2) := by decide +kernel
theorem dX10_takesKey_55 : decode cX10_takesKey 55 = .ok (.iload 4, 2) := by decide +kernel
theorem dX10_takesKey_57 : decode cX10_takesKey 57 = .ok (.iload_n 2, 1) := by decide +kernel
theorem dX10_takesKey_58 : decode cX10_takesKey 58 = .ok (.if_icmp .ge 48, 3) := by decide +kernel
theorem dX10_takesKey_61 : decode cX10_takesKey 61 = .ok (.iload_n 3, 1) := by decide +kernel
theorem dX10_takesKey_62 : decode cX10_takesKey 62 = .ok (.ifCond .eq 44, 3) := by decide +kernel
theorem dX10_takesKey_65 : decode cX10_takesKey 65 = .ok (.aload_n 0, 1) := by decide +kernel
theorem dX10_takesKey_66 : decode cX10_takesKey 66 = .ok (.getfield 26, 3) := by decide +kernel
theorem dX10_takesKey_69 : decode cX10_takesKey 69 = .ok (.aload_n 0, 1) := by decide +kernel
theorem dX10_takesKey_70 : decode cX10_takesKey 70 = .ok (.getfield 197, 3) := by decide +kernel
theorem dX10_takesKey_73 : decode cX10_takesKey 73 = .ok (.iload 4, 2) := by decide +kernel
theorem dX10_takesKey_75 : decode cX10_takesKey 75 = .ok (.iadd, 1) := by decide +kernel
theorem dX10_takesKey_76 : decode cX10_takesKey 76 = .ok (.iaload, 1) := by decide +kernel
theorem dX10_takesKey_77 : decode cX10_takesKey 77 = .ok (.aload_n 0, 1) := by decide +kernel
theorem dX10_takesKey_78 : decode cX10_takesKey 78 = .ok (.getfield 29, 3) := by decide +kernel
theorem dX10_takesKey_81 : decode cX10_takesKey 81 = .ok (.aload_n 0, 1) := by decide +kernel
theorem dX10_takesKey_82 : decode cX10_takesKey 82 = .ok (.getfield 33, 3) := by decide +kernel
theorem dX10_takesKey_85 : decode cX10_takesKey 85 = .ok (.iload_n 1, 1) := by decide +kernel
theorem dX10_takesKey_86 : decode cX10_takesKey 86 = .ok (.iaload, 1) := by decide +kernel
theorem dX10_takesKey_87 : decode cX10_takesKey 87 = .ok (.iload 4, 2) := by decide +kernel
theorem dX10_takesKey_89 : decode cX10_takesKey 89 = .ok (.iadd, 1) := by decide +kernel
theorem dX10_takesKey_90 : decode cX10_takesKey 90 = .ok (.caload, 1) := by decide +kernel
theorem dX10_takesKey_91 : decode cX10_takesKey 91 = .ok (.if_icmp .ne 7, 3) := by decide +kernel
theorem dX10_takesKey_94 : decode cX10_takesKey 94 = .ok (.iconst 1, 1) := by decide +kernel
theorem dX10_takesKey_95 : decode cX10_takesKey 95 = .ok (.goto 4, 3) := by decide +kernel
theorem dX10_takesKey_98 : decode cX10_takesKey 98 = .ok (.iconst 0, 1) := by decide +kernel
theorem dX10_takesKey_99 : decode cX10_takesKey 99 = .ok (.istore_n 3, 1) := by decide +kernel
theorem dX10_takesKey_100 : decode cX10_takesKey 100 = .ok (.iinc 4 1, 3) := by decide +kernel
theorem dX10_takesKey_103 : decode cX10_takesKey 103 = .ok (.goto (-48), 3) := by decide +kernel
theorem dX10_takesKey_106 : decode cX10_takesKey 106 = .ok (.iload_n 3, 1) := by decide +kernel
theorem dX10_takesKey_107 : decode cX10_takesKey 107 = .ok (.ifCond .eq 14, 3) := by decide +kernel
theorem dX10_takesKey_110 : decode cX10_takesKey 110 = .ok (.aload_n 0, 1) := by decide +kernel
theorem dX10_takesKey_111 : decode cX10_takesKey 111 = .ok (.iload_n 1, 1) := by decide +kernel
theorem dX10_takesKey_112 : decode cX10_takesKey 112 = .ok (.putfield 215, 3) := by decide +kernel
theorem dX10_takesKey_115 : decode cX10_takesKey 115 = .ok (.aload_n 0, 1) := by decide +kernel
theorem dX10_takesKey_116 : decode cX10_takesKey 116 = .ok (.invokevirtual 218, 3) := by decide +kernel
theorem dX10_takesKey_119 : decode cX10_takesKey 119 = .ok (.iconst 1, 1) := by decide +kernel
theorem dX10_takesKey_120 : decode cX10_takesKey 120 = .ok (.ireturn, 1) := by decide +kernel
theorem dX10_takesKey_121 : decode cX10_takesKey 121 = .ok (.iinc 1 1, 3) := by decide +kernel
theorem dX10_takesKey_124 : decode cX10_takesKey 124 = .ok (.goto (-112), 3) := by decide +kernel
theorem dX10_takesKey_127 : decode cX10_takesKey 127 = .ok (.iconst 0, 1) := by decide +kernel
theorem dX10_takesKey_128 : decode cX10_takesKey 128 = .ok (.ireturn, 1) := by decide +kernel
abbrev x_X10_takesKey (E : mh_E) (d mc ms : Nat) (Post : Option Value → mh_H → Prop) : mh_X := (E, yX10_takesKey, cX10_takesKey, 5, (some .boolean), d, mc, ms, Post)
def q_X10_takesKey_106 (X : mh_X) : mh_PR := s_il 3 (s_if1 (fun x => x = 0) (s_inc 1 (1) (mh_G X 12)) (s_al 0 (s_il 1 (s_pi 10 13 (s_al 0 (s_cv X yX10_go 10 0 (s_push (.int (1)) (s_zret X))))))))
theorem b_X10_takesKey_106 {E : mh_E} {d mc ms : Nat} {Post : Option Value → mh_H → Prop} : mh_S (x_X10_takesKey E d mc ms Post) 106 (q_X10_takesKey_106 (x_X10_takesKey E d mc ms Post)) := sn_iload_n dX10_takesKey_106 rfl (sn_if_eq (tgt := 121) dX10_takesKey_107 (by decide) (sn_iinc dX10_takesKey_121 (by decide) (Nat.le_of_ble_eq_true rfl) (sn_goto (tgt := 12) dX10_takesKey_124 (by decide) (mh_S.G))) (sn_aload_n dX10_takesKey_110 rfl (sn_iload_n dX10_takesKey_111 rfl (sn_puti clX10 (by decide) w_1113 rfl rfl dX10_takesKey_112 (sn_aload_n dX10_takesKey_115 rfl (sn_cv w_1450 w_1452 w_45 w_66 rfl nm_X10_go dX10_takesKey_116 (sn_iconst dX10_takesKey_119 (by decide) (sn_zret rfl dX10_takesKey_120))))))))
def q_X10_takesKey_99 (X : mh_X) : mh_PR := s_is 3 (s_inc 4 (1) (mh_G X 55))
theorem b_X10_takesKey_99 {E : mh_E} {d mc ms : Nat} {Post : Option Value → mh_H → Prop} : mh_S (x_X10_takesKey E d mc ms Post) 99 (q_X10_takesKey_99 (x_X10_takesKey E d mc ms Post)) := sn_istore_n dX10_takesKey_99 rfl (Nat.le_of_ble_eq_true rfl) (sn_iinc dX10_takesKey_100 (by decide) (Nat.le_of_ble_eq_true rfl) (sn_goto (tgt := 55) dX10_takesKey_103 (by decide) (mh_S.G)))
def q_X10_takesKey_55 (X : mh_X) : mh_PR := s_il 4 (s_il 2 (s_if2 (fun x y => y ≤ x) (q_X10_takesKey_106 X) (s_il 3 (s_if1 (fun x => x = 0) (q_X10_takesKey_106 X) (s_al 0 (s_gr 10 6 (s_al 0 (s_gi 10 9 (s_il 4 (s_bin (fun x y => x + y) (s_ald 0 (s_al 0 (s_gr 10 14 (s_al 0 (s_gr 10 15 (s_il 1 (s_ald 0 (s_il 4 (s_bin (fun x y => x + y) (s_ald 1 (s_if2 (fun x y => ¬ x = y) (s_push (.int (0)) (q_X10_takesKey_99 X)) (s_push (.int (1)) (q_X10_takesKey_99 X)))))))))))))))))))))))
theorem b_X10_takesKey_55 {E : mh_E} {d mc ms : Nat} {Post : Option Value → mh_H → Prop} : mh_S (x_X10_takesKey E d mc ms Post) 55 (q_X10_takesKey_55 (x_X10_takesKey E d mc ms Post)) := sn_iload dX10_takesKey_55 (sn_iload_n dX10_takesKey_57 rfl (sn_icmp_ge (tgt := 106) dX10_takesKey_58 (by decide) (b_X10_takesKey_106) (sn_iload_n dX10_takesKey_61 rfl (sn_if_eq (tgt := 106) dX10_takesKey_62 (by decide) (b_X10_takesKey_106) (sn_aload_n dX10_takesKey_65 rfl (sn_getr clX10 (by decide) w_1106 dX10_takesKey_66 (sn_aload_n dX10_takesKey_69 rfl (sn_geti clX10 (by decide) w_1109 dX10_takesKey_70 (sn_iload dX10_takesKey_73 (sn_iadd dX10_takesKey_75 (sn_iaload dX10_takesKey_76 (sn_aload_n dX10_takesKey_77 rfl (sn_getr clX10 (by decide) w_1114 dX10_takesKey_78 (sn_aload_n dX10_takesKey_81 rfl (sn_getr clX10 (by decide) w_1115 dX10_takesKey_82 (sn_iload_n dX10_takesKey_85 rfl (sn_iaload dX10_takesKey_86 (sn_iload dX10_takesKey_87 (sn_iadd dX10_takesKey_89 (sn_caload dX10_takesKey_90 (sn_icmp_ne (tgt := 98) dX10_takesKey_91 (by decide) (sn_iconst dX10_takesKey_98 (by decide) b_X10_takesKey_99) (sn_iconst dX10_takesKey_94 (by decide) (sn_goto (tgt := 99) dX10_takesKey_95 (by decide) (b_X10_takesKey_99))))))))))))))))))))))))
def q_X10_takesKey_51 (X : mh_X) : mh_PR := s_is 3 (s_push (.int (0)) (s_is 4 (mh_G X 55)))
theorem b_X10_takesKey_51 {E : mh_E} {d mc ms : Nat} {Post : Option Value → mh_H → Prop} : mh_S (x_X10_takesKey E d mc ms Post) 51 (q_X10_takesKey_51 (x_X10_takesKey E d mc ms Post)) := sn_istore_n dX10_takesKey_51 rfl (Nat.le_of_ble_eq_true rfl) (sn_iconst dX10_takesKey_52 (by decide) (sn_istore dX10_takesKey_53 (Nat.le_of_ble_eq_true rfl) mh_S.G))
def q_X10_takesKey_12 (X : mh_X) : mh_PR := s_il 1 (s_push (.int (3)) (s_if2 (fun x y => y ≤ x) (s_push (.int (0)) (s_zret X)) (s_al 0 (s_gr 10 15 (s_il 1 (s_push (.int (1)) (s_bin (fun x y => x + y) (s_ald 0 (s_al 0 (s_gr 10 15 (s_il 1 (s_ald 0 (s_bin (fun x y => x - y) (s_is 2 (s_il 2 (s_al 0 (s_gi 10 8 (s_al 0 (s_gi 10 9 (s_bin (fun x y => x - y) (s_if2 (fun x y => ¬ x = y) (s_push (.int (0)) (q_X10_takesKey_51 X)) (s_push (.int (1)) (q_X10_takesKey_51 X)))))))))))))))))))))))
theorem b_X10_takesKey_12 {E : mh_E} {d mc ms : Nat} {Post : Option Value → mh_H → Prop} : mh_S (x_X10_takesKey E d mc ms Post) 12 (q_X10_takesKey_12 (x_X10_takesKey E d mc ms Post)) := sn_iload_n dX10_takesKey_12 rfl (sn_iconst dX10_takesKey_13 (by decide) (sn_icmp_ge (tgt := 127) dX10_takesKey_14 (by decide) (sn_iconst dX10_takesKey_127 (by decide) (sn_zret rfl dX10_takesKey_128)) (sn_aload_n dX10_takesKey_17 rfl (sn_getr clX10 (by decide) w_1115 dX10_takesKey_18 (sn_iload_n dX10_takesKey_21 rfl (sn_iconst dX10_takesKey_22 (by decide) (sn_iadd dX10_takesKey_23 (sn_iaload dX10_takesKey_24 (sn_aload_n dX10_takesKey_25 rfl (sn_getr clX10 (by decide) w_1115 dX10_takesKey_26 (sn_iload_n dX10_takesKey_29 rfl (sn_iaload dX10_takesKey_30 (sn_isub dX10_takesKey_31 (sn_istore_n dX10_takesKey_32 rfl (Nat.le_of_ble_eq_true rfl) (sn_iload_n dX10_takesKey_33 rfl (sn_aload_n dX10_takesKey_34 rfl (sn_geti clX10 (by decide) w_1108 dX10_takesKey_35 (sn_aload_n dX10_takesKey_38 rfl (sn_geti clX10 (by decide) w_1109 dX10_takesKey_39 (sn_isub dX10_takesKey_42 (sn_icmp_ne (tgt := 50) dX10_takesKey_43 (by decide) (sn_iconst dX10_takesKey_50 (by decide) b_X10_takesKey_51) (sn_iconst dX10_takesKey_46 (by decide) (sn_goto (tgt := 51) dX10_takesKey_47 (by decide) (b_X10_takesKey_51))))))))))))))))))))))))
def q_X10_takesKey_0 (X : mh_X) : mh_PR := s_al 0 (s_gi 10 10 (s_push (.int (1)) (s_if2 (fun x y => x = y) (s_push (.int (0)) (s_is 1 (mh_G X 12))) (s_push (.int (0)) (s_zret X)))))
theorem b_X10_takesKey_0 {E : mh_E} {d mc ms : Nat} {Post : Option Value → mh_H → Prop} : mh_S (x_X10_takesKey E d mc ms Post) 0 (q_X10_takesKey_0 (x_X10_takesKey E d mc ms Post)) := sn_aload_n dX10_takesKey_0 rfl (sn_geti clX10 (by decide) w_1110 dX10_takesKey_1 (sn_iconst dX10_takesKey_4 (by decide) (sn_icmp_eq (tgt := 10) dX10_takesKey_5 (by decide) (sn_iconst dX10_takesKey_10 (by decide) (sn_istore_n dX10_takesKey_11 rfl (Nat.le_of_ble_eq_true rfl) mh_S.G)) (sn_iconst dX10_takesKey_8 (by decide) (sn_zret rfl dX10_takesKey_9)))))
theorem m_X10_takesKey {E : mh_E} {d mc ms : Nat} {args : List Value} {h : mh_H} {Post : Option Value → mh_H → Prop} (lv : List (Option Value)) (hl : lv_args 0 args = mh_al 0 lv) (hs : (lg_sl args).length ≤ 5) (hG : q_X10_takesKey_0 (x_X10_takesKey E d mc ms Post) lv [] h 0 0) : mh_M E d mc ms yX10_takesKey args h Post := mh_M.of w_1465 (by decide) (by decide) hl hs (b_X10_takesKey_0 _ _ _ _ _ hG)
theorem dX10_settle_0 : decode cX10_settle 0 = .ok (.aload_n 0, 1) := by decide +kernel
theorem dX10_settle_1 : decode cX10_settle 1 = .ok (.getfield 221, 3) := by decide +kernel
theorem dX10_settle_4 : decode cX10_settle 4 = .ok (.ifCond .le 78, 3) := by decide +kernel
theorem dX10_settle_7 : decode cX10_settle 7 = .ok (.aload_n 0, 1) := by decide +kernel
theorem dX10_settle_8 : decode cX10_settle 8 = .ok (.getfield 39, 3) := by decide +kernel
theorem dX10_settle_11 : decode cX10_settle 11 = .ok (.aload_n 0, 1) := by decide +kernel
theorem dX10_settle_12 : decode cX10_settle 12 = .ok (.getfield 221, 3) := by decide +kernel
theorem dX10_settle_15 : decode cX10_settle 15 = .ok (.iconst 1, 1) := by decide +kernel
theorem dX10_settle_16 : decode cX10_settle 16 = .ok (.isub, 1) := by decide +kernel
theorem dX10_settle_17 : decode cX10_settle 17 = .ok (.iaload, 1) := by decide +kernel
theorem dX10_settle_18 : decode cX10_settle 18 = .ok (.bipush (-11), 2) := by decide +kernel
theorem dX10_settle_20 : decode cX10_settle 20 = .ok (.if_icmp .eq 62, 3) := by decide +kernel
theorem dX10_settle_23 : decode cX10_settle 23 = .ok (.aload_n 0, 1) := by decide +kernel
theorem dX10_settle_24 : decode cX10_settle 24 = .ok (.getfield 39, 3) := by decide +kernel
theorem dX10_settle_27 : decode cX10_settle 27 = .ok (.aload_n 0, 1) := by decide +kernel
theorem dX10_settle_28 : decode cX10_settle 28 = .ok (.getfield 221, 3) := by decide +kernel
theorem dX10_settle_31 : decode cX10_settle 31 = .ok (.iconst 1, 1) := by decide +kernel
theorem dX10_settle_32 : decode cX10_settle 32 = .ok (.isub, 1) := by decide +kernel
theorem dX10_settle_33 : decode cX10_settle 33 = .ok (.iaload, 1) := by decide +kernel
theorem dX10_settle_34 : decode cX10_settle 34 = .ok (.invokestatic 224, 3) := by decide +kernel
theorem dX10_settle_37 : decode cX10_settle 37 = .ok (.iload_n 1, 1) := by decide +kernel
theorem dX10_settle_38 : decode cX10_settle 38 = .ok (.if_icmp .lt 44, 3) := by decide +kernel
theorem dX10_settle_41 : decode cX10_settle 41 = .ok (.aload_n 0, 1) := by decide +kernel
theorem dX10_settle_42 : decode cX10_settle 42 = .ok (.dup, 1) := by decide +kernel
theorem dX10_settle_43 : decode cX10_settle 43 = .ok (.getfield 221, 3) := by decide +kernel
theorem dX10_settle_46 : decode cX10_settle 46 = .ok (.iconst 1, 1) := by decide +kernel
theorem dX10_settle_47 : decode cX10_settle 47 = .ok (.isub, 1) := by decide +kernel
theorem dX10_settle_48 : decode cX10_settle 48 = .ok (.putfield 221, 3) := by decide +kernel
theorem dX10_settle_51 : decode cX10_settle 51 = .ok (.aload_n 0, 1) := by decide +kernel
theorem dX10_settle_52 : decode cX10_settle 52 = .ok (.getfield 36, 3) := by decide +kernel
theorem dX10_settle_55 : decode cX10_settle 55 = .ok (.aload_n 0, 1) := by decide +kernel
theorem dX10_settle_56 : decode cX10_settle 56 = .ok (.getfield 227, 3) := by decide +kernel
theorem dX10_settle_59 : decode cX10_settle 59 = .ok (.aload_n 0, 1) := by decide +kernel
theorem dX10_settle_60 : decode cX10_settle 60 = .ok (.getfield 39, 3) := by decide +kernel
theorem dX10_settle_63 : decode cX10_settle 63 = .ok (.aload_n 0, 1) := by decide +kernel
theorem dX10_settle_64 : decode cX10_settle 64 = .ok (.getfield 221, 3) := by decide +kernel
theorem dX10_settle_67 : decode cX10_settle 67 = .ok (.iaload, 1) := by decide +kernel
theorem dX10_settle_68 : decode cX10_settle 68 = .ok (.iastore, 1) := by decide +kernel
theorem dX10_settle_69 : decode cX10_settle 69 = .ok (.aload_n 0, 1) := by decide +kernel
theorem dX10_settle_70 : decode cX10_settle 70 = .ok (.dup, 1) := by decide +kernel
theorem dX10_settle_71 : decode cX10_settle 71 = .ok (.getfield 227, 3) := by decide +kernel
theorem dX10_settle_74 : decode cX10_settle 74 = .ok (.iconst 1, 1) := by decide +kernel
theorem dX10_settle_75 : decode cX10_settle 75 = .ok (.iadd, 1) := by decide +kernel
theorem dX10_settle_76 : decode cX10_settle 76 = .ok (.putfield 227, 3) := by decide +kernel
theorem dX10_settle_79 : decode cX10_settle 79 = .ok (.goto (-79), 3) := by decide +kernel
theorem dX10_settle_82 : decode cX10_settle 82 = .ok (.return_, 1) := by decide +kernel
abbrev x_X10_settle (E : mh_E) (d mc ms : Nat) (Post : Option Value → mh_H → Prop) : mh_X := (E, yX10_settle, cX10_settle, 2, none, d, mc, ms, Post)
def q_X10_settle_82 (X : mh_X) : mh_PR := s_vret X
theorem b_X10_settle_82 {E : mh_E} {d mc ms : Nat} {Post : Option Value → mh_H → Prop} : mh_S (x_X10_settle E d mc ms Post) 82 (q_X10_settle_82 (x_X10_settle E d mc ms Post)) := sn_vret rfl dX10_settle_82
def q_X10_settle_0 (X : mh_X) : mh_PR := s_al 0 (s_gi 10 20 (s_if1 (fun x => x ≤ 0) (q_X10_settle_82 X) (s_al 0 (s_gr 10 19 (s_al 0 (s_gi 10 20 (s_push (.int (1)) (s_bin (fun x y => x - y) (s_ald 0 (s_push (.int (-11)) (s_if2 (fun x y => x = y) (q_X10_settle_82 X) (s_al 0 (s_gr 10 19 (s_al 0 (s_gi 10 20 (s_push (.int (1)) (s_bin (fun x y => x - y) (s_ald 0 (s_cs X yX10_rank 1 (s_il 1 (s_if2 (fun x y => x < y) (q_X10_settle_82 X) (s_al 0 (s_dup (s_gi 10 20 (s_push (.int (1)) (s_bin (fun x y => x - y) (s_pi 10 20 (s_al 0 (s_gr 10 16 (s_al 0 (s_gi 10 17 (s_al 0 (s_gr 10 19 (s_al 0 (s_gi 10 20 (s_ald 0 (s_ast 0 (fun x => x) (s_al 0 (s_dup (s_gi 10 17 (s_push (.int (1)) (s_bin (fun x y => x + y) (s_pi 10 17 (mh_G X 0))))))))))))))))))))))))))))))))))))))))))))
theorem b_X10_settle_0 {E : mh_E} {d mc ms : Nat} {Post : Option Value → mh_H → Prop} : mh_S (x_X10_settle E d mc ms Post) 0 (q_X10_settle_0 (x_X10_settle E d mc ms Post)) := sn_aload_n dX10_settle_0 rfl (sn_geti clX10 (by decide) w_1120 dX10_settle_1 (sn_if_le (tgt := 82) dX10_settle_4 (by decide) (b_X10_settle_82) (sn_aload_n dX10_settle_7 rfl (sn_getr clX10 (by decide) w_1119 dX10_settle_8 (sn_aload_n dX10_settle_11 rfl (sn_geti clX10 (by decide) w_1120 dX10_settle_12 (sn_iconst dX10_settle_15 (by decide) (sn_isub dX10_settle_16 (sn_iaload dX10_settle_17 (sn_bipush dX10_settle_18 (by decide) (sn_icmp_eq (tgt := 82) dX10_settle_20 (by decide) (b_X10_settle_82) (sn_aload_n dX10_settle_23 rfl (sn_getr clX10 (by decide) w_1119 dX10_settle_24 (sn_aload_n dX10_settle_27 rfl (sn_geti clX10 (by decide) w_1120 dX10_settle_28 (sn_iconst dX10_settle_31 (by decide) (sn_isub dX10_settle_32 (sn_iaload dX10_settle_33 (sn_cs w_1482 w_1483 w_66 nm_X10_rank dX10_settle_34 (sn_iload_n dX10_settle_37 rfl (sn_icmp_lt (tgt := 82) dX10_settle_38 (by decide) (b_X10_settle_82) (sn_aload_n dX10_settle_41 rfl (sn_dup dX10_settle_42 (sn_geti clX10 (by decide) w_1120 dX10_settle_43 (sn_iconst dX10_settle_46 (by decide) (sn_isub dX10_settle_47 (sn_puti clX10 (by decide) w_1120 rfl rfl dX10_settle_48 (sn_aload_n dX10_settle_51 rfl (sn_getr clX10 (by decide) w_1116 dX10_settle_52 (sn_aload_n dX10_settle_55 rfl (sn_geti clX10 (by decide) w_1117 dX10_settle_56 (sn_aload_n dX10_settle_59 rfl (sn_getr clX10 (by decide) w_1119 dX10_settle_60 (sn_aload_n dX10_settle_63 rfl (sn_geti clX10 (by decide) w_1120 dX10_settle_64 (sn_iaload dX10_settle_67 (sn_iastore dX10_settle_68 (sn_aload_n dX10_settle_69 rfl (sn_dup dX10_settle_70 (sn_geti clX10 (by decide) w_1117 dX10_settle_71 (sn_iconst dX10_settle_74 (by decide) (sn_iadd dX10_settle_75 (sn_puti clX10 (by decide) w_1117 rfl rfl dX10_settle_76 (sn_goto (tgt := 0) dX10_settle_79 (by decide) (mh_S.G)))))))))))))))))))))))))))))))))))))))))))))
theorem m_X10_settle {E : mh_E} {d mc ms : Nat} {args : List Value} {h : mh_H} {Post : Option Value → mh_H → Prop} (lv : List (Option Value)) (hl : lv_args 0 args = mh_al 0 lv) (hs : (lg_sl args).length ≤ 2) (hG : q_X10_settle_0 (x_X10_settle E d mc ms Post) lv [] h 0 0) : mh_M E d mc ms yX10_settle args h Post := mh_M.of w_1481 (by decide) (by decide) hl hs (b_X10_settle_0 _ _ _ _ _ hG)
theorem dX10_signHere_0 : decode cX10_signHere 0 = .ok (.aload_n 0, 1) := by decide +kernel
theorem dX10_signHere_1 : decode cX10_signHere 1 = .ok (.getfield 203, 3) := by decide +kernel
theorem dX10_signHere_4 : decode cX10_signHere 4 = .ok (.iconst 3, 1) := by decide +kernel
theorem dX10_signHere_5 : decode cX10_signHere 5 = .ok (.if_icmp .eq 5, 3) := by decide +kernel
theorem dX10_signHere_8 : decode cX10_signHere 8 = .ok (.iconst 0, 1) := by decide +kernel
theorem dX10_signHere_9 : decode cX10_signHere 9 = .ok (.ireturn, 1) := by decide +kernel
theorem dX10_signHere_10 : decode cX10_signHere 10 = .ok (.aload_n 0, 1) := by decide +kernel
theorem dX10_signHere_11 : decode cX10_signHere 11 = .ok (.getfield 209, 3) := by decide +kernel
theorem dX10_signHere_14 : decode cX10_signHere 14 = .ok (.lookupswitch 108 #[(38, 84), (42, 102), (43, 96), (45, 99), (47, 105), (60, 87), (61, 90), (62, 93), (124, 82)], 82) := by decide +kernel
theorem dX10_signHere_96 : decode cX10_signHere 96 = .ok (.iconst (-1), 1) := by decide +kernel
theorem dX10_signHere_97 : decode cX10_signHere 97 = .ok (.ireturn, 1) := by decide +kernel
theorem dX10_signHere_98 : decode cX10_signHere 98 = .ok (.bipush (-2), 2) := by decide +kernel
theorem dX10_signHere_100 : decode cX10_signHere 100 = .ok (.ireturn, 1) := by decide +kernel
theorem dX10_signHere_101 : decode cX10_signHere 101 = .ok (.bipush (-3), 2) := by decide +kernel
theorem dX10_signHere_103 : decode cX10_signHere 103 = .ok (.ireturn, 1) := by decide +kernel
theorem dX10_signHere_104 : decode cX10_signHere 104 = .ok (.bipush (-4), 2) := by decide +kernel
theorem dX10_signHere_106 : decode cX10_signHere 106 = .ok (.ireturn, 1) := by decide +kernel
theorem dX10_signHere_107 : decode cX10_signHere 107 = .ok (.bipush (-5), 2) := by decide +kernel
theorem dX10_signHere_109 : decode cX10_signHere 109 = .ok (.ireturn, 1) := by decide +kernel
theorem dX10_signHere_110 : decode cX10_signHere 110 = .ok (.bipush (-6), 2) := by decide +kernel
theorem dX10_signHere_112 : decode cX10_signHere 112 = .ok (.ireturn, 1) := by decide +kernel
theorem dX10_signHere_113 : decode cX10_signHere 113 = .ok (.bipush (-7), 2) := by decide +kernel
theorem dX10_signHere_115 : decode cX10_signHere 115 = .ok (.ireturn, 1) := by decide +kernel
theorem dX10_signHere_116 : decode cX10_signHere 116 = .ok (.bipush (-8), 2) := by decide +kernel
theorem dX10_signHere_118 : decode cX10_signHere 118 = .ok (.ireturn, 1) := by decide +kernel
theorem dX10_signHere_119 : decode cX10_signHere 119 = .ok (.bipush (-9), 2) := by decide +kernel
theorem dX10_signHere_121 : decode cX10_signHere 121 = .ok (.ireturn, 1) := by decide +kernel
theorem dX10_signHere_122 : decode cX10_signHere 122 = .ok (.iconst 0, 1) := by decide +kernel
theorem dX10_signHere_123 : decode cX10_signHere 123 = .ok (.ireturn, 1) := by decide +kernel
abbrev x_X10_signHere (E : mh_E) (d mc ms : Nat) (Post : Option Value → mh_H → Prop) : mh_X := (E, yX10_signHere, cX10_signHere, 1, (some .int), d, mc, ms, Post)
def q_X10_signHere_0 (X : mh_X) : mh_PR := s_al 0 (s_gi 10 10 (s_push (.int (3)) (s_if2 (fun x y => x = y) (s_al 0 (s_gi 10 11 (s_sw [((38 : Int32), s_push (.int (-2)) (s_iret X)), ((42 : Int32), s_push (.int (-8)) (s_iret X)), ((43 : Int32), s_push (.int (-6)) (s_iret X)), ((45 : Int32), s_push (.int (-7)) (s_iret X)), ((47 : Int32), s_push (.int (-9)) (s_iret X)), ((60 : Int32), s_push (.int (-3)) (s_iret X)), ((61 : Int32), s_push (.int (-4)) (s_iret X)), ((62 : Int32), s_push (.int (-5)) (s_iret X)), ((124 : Int32), s_push (.int (-1)) (s_iret X))] (s_push (.int (0)) (s_iret X))))) (s_push (.int (0)) (s_iret X)))))
theorem b_X10_signHere_0 {E : mh_E} {d mc ms : Nat} {Post : Option Value → mh_H → Prop} : mh_S (x_X10_signHere E d mc ms Post) 0 (q_X10_signHere_0 (x_X10_signHere E d mc ms Post)) := sn_aload_n dX10_signHere_0 rfl (sn_geti clX10 (by decide) w_1110 dX10_signHere_1 (sn_iconst dX10_signHere_4 (by decide) (sn_icmp_eq (tgt := 10) dX10_signHere_5 (by decide) (sn_aload_n dX10_signHere_10 rfl (sn_geti clX10 (by decide) w_1111 dX10_signHere_11 (sn_lookup (tgt := 122) (ts := [(38, 84, 98), (42, 102, 116), (43, 96, 110), (45, 99, 113), (47, 105, 119), (60, 87, 101), (61, 90, 104), (62, 93, 107), (124, 82, 96)]) dX10_signHere_14 (by decide +kernel) (by decide +kernel) (by decide +kernel) (sw_cons (sn_bipush dX10_signHere_98 (by decide) (sn_iret rfl dX10_signHere_100)) (sw_cons (sn_bipush dX10_signHere_116 (by decide) (sn_iret rfl dX10_signHere_118)) (sw_cons (sn_bipush dX10_signHere_110 (by decide) (sn_iret rfl dX10_signHere_112)) (sw_cons (sn_bipush dX10_signHere_113 (by decide) (sn_iret rfl dX10_signHere_115)) (sw_cons (sn_bipush dX10_signHere_119 (by decide) (sn_iret rfl dX10_signHere_121)) (sw_cons (sn_bipush dX10_signHere_101 (by decide) (sn_iret rfl dX10_signHere_103)) (sw_cons (sn_bipush dX10_signHere_104 (by decide) (sn_iret rfl dX10_signHere_106)) (sw_cons (sn_bipush dX10_signHere_107 (by decide) (sn_iret rfl dX10_signHere_109)) (sw_cons (sn_iconst dX10_signHere_96 (by decide) (sn_iret rfl dX10_signHere_97)) sw_nil))))))))) (by decide) (sn_iconst dX10_signHere_122 (by decide) (sn_iret rfl dX10_signHere_123))))) (sn_iconst dX10_signHere_8 (by decide) (sn_iret rfl dX10_signHere_9)))))
theorem m_X10_signHere {E : mh_E} {d mc ms : Nat} {args : List Value} {h : mh_H} {Post : Option Value → mh_H → Prop} (lv : List (Option Value)) (hl : lv_args 0 args = mh_al 0 lv) (hs : (lg_sl args).length ≤ 1) (hG : q_X10_signHere_0 (x_X10_signHere E d mc ms Post) lv [] h 0 0) : mh_M E d mc ms yX10_signHere args h Post := mh_M.of w_1492 (by decide) (by decide) hl hs (b_X10_signHere_0 _ _ _ _ _ hG)
theorem dX10_takesPart_0 : decode cX10_takesPart 0 = .ok (.aload_n 0, 1) := by decide +kernel
theorem dX10_takesPart_1 : decode cX10_takesPart 1 = .ok (.getfield 203, 3) := by decide +kernel
theorem dX10_takesPart_4 : decode cX10_takesPart 4 = .ok (.iconst 1, 1) := by decide +kernel
theorem dX10_takesPart_5 : decode cX10_takesPart 5 = .ok (.if_icmp .ne 31, 3) := by decide +kernel
theorem dX10_takesPart_8 : decode cX10_takesPart 8 = .ok (.aload_n 0, 1) := by decide +kernel
theorem dX10_takesPart_9 : decode cX10_takesPart 9 = .ok (.getfield 194, 3) := by decide +kernel
theorem dX10_takesPart_12 : decode cX10_takesPart 12 = .ok (.aload_n 0, 1) := by decide +kernel
theorem dX10_takesPart_13 : decode cX10_takesPart 13 = .ok (.getfield 197, 3) := by decide +kernel
theorem dX10_takesPart_16 : decode cX10_takesPart 16 = .ok (.isub, 1) := by decide +kernel
theorem dX10_takesPart_17 : decode cX10_takesPart 17 = .ok (.iconst 1, 1) := by decide +kernel
theorem dX10_takesPart_18 : decode cX10_takesPart 18 = .ok (.if_icmp .ne 18, 3) := by decide +kernel
theorem dX10_takesPart_21 : decode cX10_takesPart 21 = .ok (.aload_n 0, 1) := by decide +kernel
theorem dX10_takesPart_22 : decode cX10_takesPart 22 = .ok (.aload_n 0, 1) := by decide +kernel
theorem dX10_takesPart_23 : decode cX10_takesPart 23 = .ok (.getfield 209, 3) := by decide +kernel
theorem dX10_takesPart_26 : decode cX10_takesPart 26 = .ok (.invokevirtual 230, 3) := by decide +kernel
theorem dX10_takesPart_29 : decode cX10_takesPart 29 = .ok (.ifCond .lt 7, 3) := by decide +kernel
theorem dX10_takesPart_32 : decode cX10_takesPart 32 = .ok (.iconst 1, 1) := by decide +kernel
theorem dX10_takesPart_33 : decode cX10_takesPart 33 = .ok (.goto 4, 3) := by decide +kernel
theorem dX10_takesPart_36 : decode cX10_takesPart 36 = .ok (.iconst 0, 1) := by decide +kernel
theorem dX10_takesPart_37 : decode cX10_takesPart 37 = .ok (.istore_n 1, 1) := by decide +kernel
theorem dX10_takesPart_38 : decode cX10_takesPart 38 = .ok (.aload_n 0, 1) := by decide +kernel
theorem dX10_takesPart_39 : decode cX10_takesPart 39 = .ok (.getfield 203, 3) := by decide +kernel
theorem dX10_takesPart_42 : decode cX10_takesPart 42 = .ok (.iconst 2, 1) := by decide +kernel
theorem dX10_takesPart_43 : decode cX10_takesPart 43 = .ok (.if_icmp .eq 9, 3) := by decide +kernel
theorem dX10_takesPart_46 : decode cX10_takesPart 46 = .ok (.iload_n 1, 1) := by decide +kernel
theorem dX10_takesPart_47 : decode cX10_takesPart 47 = .ok (.ifCond .ne 5, 3) := by decide +kernel
theorem dX10_takesPart_50 : decode cX10_takesPart 50 = .ok (.iconst 0, 1) := by decide +kernel
theorem dX10_takesPart_51 : decode cX10_takesPart 51 = .ok (.ireturn, 1) := by decide +kernel
theorem dX10_takesPart_52 : decode cX10_takesPart 52 = .ok (.aload_n 0, 1) := by decide +kernel
theorem dX10_takesPart_53 : decode cX10_takesPart 53 = .ok (.getfield 36, 3) := by decide +kernel
theorem dX10_takesPart_56 : decode cX10_takesPart 56 = .ok (.aload_n 0, 1) := by decide +kernel
theorem dX10_takesPart_57 : decode cX10_takesPart 57 = .ok (.getfield 227, 3) := by decide +kernel
theorem dX10_takesPart_60 : decode cX10_takesPart 60 = .ok (.aload_n 0, 1) := by decide +kernel
theorem dX10_takesPart_61 : decode cX10_takesPart 61 = .ok (.getfield 203, 3) := by decide +kernel
theorem dX10_takesPart_64 : decode cX10_takesPart 64 = .ok (.iconst 2, 1) := by decide +kernel
theorem dX10_takesPart_65 : decode cX10_takesPart 65 = .ok (.if_icmp .ne 10, 3) := by decide +kernel
theorem dX10_takesPart_68 : decode cX10_takesPart 68 = .ok (.aload_n 0, 1) := by decide +kernel
theorem dX10_takesPart_69 : decode cX10_takesPart 69 = .ok (.getfield 209, 3) := by decide +kernel
theorem dX10_takesPart_72 : decode cX10_takesPart 72 = .ok (.goto 15, 3) := by decide +kernel
theorem dX10_takesPart_75 : decode cX10_takesPart 75 = .ok (.sipush 10000, 3) := by decide +kernel
theorem dX10_takesPart_78 : decode cX10_takesPart 78 = .ok (.aload_n 0, 1) := by decide +kernel
theorem dX10_takesPart_79 : decode cX10_takesPart 79 = .ok (.aload_n 0, 1) := by decide +kernel
theorem dX10_takesPart_80 : decode cX10_takesPart 80 = .ok (.getfield 209, 3) := by decide +kernel
theorem dX10_takesPart_83 : decode cX10_takesPart 83 = .ok (.invokevirtual 230, 3) := by decide +kernel
theorem dX10_takesPart_86 : decode cX10_takesPart 86 = .ok (.iadd, 1) := by decide +kernel
theorem dX10_takesPart_87 : decode cX10_takesPart 87 = .ok (.iastore, 1) := by decide +kernel
theorem dX10_takesPart_88 : decode cX10_takesPart 88 = .ok (.aload_n 0, 1) := by decide +kernel
theorem dX10_takesPart_89 : decode cX10_takesPart 89 = .ok (.dup, 1) := by decide +kernel
theorem dX10_takesPart_90 : decode cX10_takesPart 90 = .ok (.getfield 227, 3) := by decide +kernel
theorem dX10_takesPart_93 : decode cX10_takesPart 93 = .ok (.iconst 1, 1) := by decide +kernel
theorem dX10_takesPart_94 : decode cX10_takesPart 94 = .ok (.iadd, 1) := by decide +kernel
theorem dX10_takesPart_95 : decode cX10_takesPart 95 = .ok (.putfield 227, 3) := by decide +kernel
theorem dX10_takesPart_98 : decode cX10_takesPart 98 = .ok (.aload_n 0, 1) := by decide +kernel
theorem dX10_takesPart_99 : decode cX10_takesPart 99 = .ok (.dup, 1) := by decide +kernel
theorem dX10_takesPart_100 : decode cX10_takesPart 100 = .ok (.getfield 233, 3) := by decide +kernel
theorem dX10_takesPart_103 : decode cX10_takesPart 103 = .ok (.iconst 1, 1) := by decide +kernel
theorem dX10_takesPart_104 : decode cX10_takesPart 104 = .ok (.iadd, 1) := by decide +kernel
theorem dX10_takesPart_105 : decode cX10_takesPart 105 = .ok (.putfield 233, 3) := by decide +kernel
theorem dX10_takesPart_108 : decode cX10_takesPart 108 = .ok (.aload_n 0, 1) := by decide +kernel
theorem dX10_takesPart_109 : decode cX10_takesPart 109 = .ok (.bipush 6, 2) := by decide +kernel
theorem dX10_takesPart_111 : decode cX10_takesPart 111 = .ok (.invokevirtual 236, 3) := by decide +kernel
theorem dX10_takesPart_114 : decode cX10_takesPart 114 = .ok (.aload_n 0, 1) := by decide +kernel
theorem dX10_takesPart_115 : decode cX10_takesPart 115 = .ok (.invokevirtual 218, 3) := by decide +kernel
theorem dX10_takesPart_118 : decode cX10_takesPart 118 = .ok (.iconst 1, 1) := by decide +kernel
theorem dX10_takesPart_119 : decode cX10_takesPart 119 = .ok (.ireturn, 1) := by decide +kernel
abbrev x_X10_takesPart (E : mh_E) (d mc ms : Nat) (Post : Option Value → mh_H → Prop) : mh_X := (E, yX10_takesPart, cX10_takesPart, 2, (some .boolean), d, mc, ms, Post)
def q_X10_takesPart_87 (X : mh_X) : mh_PR := s_ast 0 (fun x => x) (s_al 0 (s_dup (s_gi 10 17 (s_push (.int (1)) (s_bin (fun x y => x + y) (s_pi 10 17 (s_al 0 (s_dup (s_gi 10 18 (s_push (.int (1)) (s_bin (fun x y => x + y) (s_pi 10 18 (s_al 0 (s_push (.int (6)) (s_cv X yX10_settle 10 1 (s_al 0 (s_cv X yX10_go 10 0 (s_push (.int (1)) (s_zret X)))))))))))))))))))
theorem b_X10_takesPart_87 {E : mh_E} {d mc ms : Nat} {Post : Option Value → mh_H → Prop} : mh_S (x_X10_takesPart E d mc ms Post) 87 (q_X10_takesPart_87 (x_X10_takesPart E d mc ms Post)) := sn_iastore dX10_takesPart_87 (sn_aload_n dX10_takesPart_88 rfl (sn_dup dX10_takesPart_89 (sn_geti clX10 (by decide) w_1117 dX10_takesPart_90 (sn_iconst dX10_takesPart_93 (by decide) (sn_iadd dX10_takesPart_94 (sn_puti clX10 (by decide) w_1117 rfl rfl dX10_takesPart_95 (sn_aload_n dX10_takesPart_98 rfl (sn_dup dX10_takesPart_99 (sn_geti clX10 (by decide) w_1118 dX10_takesPart_100 (sn_iconst dX10_takesPart_103 (by decide) (sn_iadd dX10_takesPart_104 (sn_puti clX10 (by decide) w_1118 rfl rfl dX10_takesPart_105 (sn_aload_n dX10_takesPart_108 rfl (sn_bipush dX10_takesPart_109 (by decide) (sn_cv w_1478 w_1480 w_52 w_66 rfl nm_X10_settle dX10_takesPart_111 (sn_aload_n dX10_takesPart_114 rfl (sn_cv w_1450 w_1452 w_45 w_66 rfl nm_X10_go dX10_takesPart_115 (sn_iconst dX10_takesPart_118 (by decide) (sn_zret rfl dX10_takesPart_119)))))))))))))))))))
def q_X10_takesPart_52 (X : mh_X) : mh_PR := s_al 0 (s_gr 10 16 (s_al 0 (s_gi 10 17 (s_al 0 (s_gi 10 10 (s_push (.int (2)) (s_if2 (fun x y => ¬ x = y) (s_push (.int (10000)) (s_al 0 (s_al 0 (s_gi 10 11 (s_cv X yX10_nameOf 10 1 (s_bin (fun x y => x + y) (q_X10_takesPart_87 X))))))) (s_al 0 (s_gi 10 11 (q_X10_takesPart_87 X))))))))))
theorem b_X10_takesPart_52 {E : mh_E} {d mc ms : Nat} {Post : Option Value → mh_H → Prop} : mh_S (x_X10_takesPart E d mc ms Post) 52 (q_X10_takesPart_52 (x_X10_takesPart E d mc ms Post)) := sn_aload_n dX10_takesPart_52 rfl (sn_getr clX10 (by decide) w_1116 dX10_takesPart_53 (sn_aload_n dX10_takesPart_56 rfl (sn_geti clX10 (by decide) w_1117 dX10_takesPart_57 (sn_aload_n dX10_takesPart_60 rfl (sn_geti clX10 (by decide) w_1110 dX10_takesPart_61 (sn_iconst dX10_takesPart_64 (by decide) (sn_icmp_ne (tgt := 75) dX10_takesPart_65 (by decide) (sn_sipush dX10_takesPart_75 (by decide) (sn_aload_n dX10_takesPart_78 rfl (sn_aload_n dX10_takesPart_79 rfl (sn_geti clX10 (by decide) w_1111 dX10_takesPart_80 (sn_cv w_1474 w_1476 w_51 w_66 rfl nm_X10_nameOf dX10_takesPart_83 (sn_iadd dX10_takesPart_86 b_X10_takesPart_87)))))) (sn_aload_n dX10_takesPart_68 rfl (sn_geti clX10 (by decide) w_1111 dX10_takesPart_69 (sn_goto (tgt := 87) dX10_takesPart_72 (by decide) (b_X10_takesPart_87)))))))))))
def q_X10_takesPart_37 (X : mh_X) : mh_PR := s_is 1 (s_al 0 (s_gi 10 10 (s_push (.int (2)) (s_if2 (fun x y => x = y) (q_X10_takesPart_52 X) (s_il 1 (s_if1 (fun x => ¬ x = 0) (q_X10_takesPart_52 X) (s_push (.int (0)) (s_zret X))))))))
theorem b_X10_takesPart_37 {E : mh_E} {d mc ms : Nat} {Post : Option Value → mh_H → Prop} : mh_S (x_X10_takesPart E d mc ms Post) 37 (q_X10_takesPart_37 (x_X10_takesPart E d mc ms Post)) := sn_istore_n dX10_takesPart_37 rfl (Nat.le_of_ble_eq_true rfl) (sn_aload_n dX10_takesPart_38 rfl (sn_geti clX10 (by decide) w_1110 dX10_takesPart_39 (sn_iconst dX10_takesPart_42 (by decide) (sn_icmp_eq (tgt := 52) dX10_takesPart_43 (by decide) (b_X10_takesPart_52) (sn_iload_n dX10_takesPart_46 rfl (sn_if_ne (tgt := 52) dX10_takesPart_47 (by decide) (b_X10_takesPart_52) (sn_iconst dX10_takesPart_50 (by decide) (sn_zret rfl dX10_takesPart_51))))))))
def q_X10_takesPart_36 (X : mh_X) : mh_PR := s_push (.int (0)) (q_X10_takesPart_37 X)
theorem b_X10_takesPart_36 {E : mh_E} {d mc ms : Nat} {Post : Option Value → mh_H → Prop} : mh_S (x_X10_takesPart E d mc ms Post) 36 (q_X10_takesPart_36 (x_X10_takesPart E d mc ms Post)) := sn_iconst dX10_takesPart_36 (by decide) b_X10_takesPart_37
def q_X10_takesPart_0 (X : mh_X) : mh_PR := s_al 0 (s_gi 10 10 (s_push (.int (1)) (s_if2 (fun x y => ¬ x = y) (q_X10_takesPart_36 X) (s_al 0 (s_gi 10 8 (s_al 0 (s_gi 10 9 (s_bin (fun x y => x - y) (s_push (.int (1)) (s_if2 (fun x y => ¬ x = y) (q_X10_takesPart_36 X) (s_al 0 (s_al 0 (s_gi 10 11 (s_cv X yX10_nameOf 10 1 (s_if1 (fun x => x < 0) (q_X10_takesPart_36 X) (s_push (.int (1)) (q_X10_takesPart_37 X)))))))))))))))))
theorem b_X10_takesPart_0 {E : mh_E} {d mc ms : Nat} {Post : Option Value → mh_H → Prop} : mh_S (x_X10_takesPart E d mc ms Post) 0 (q_X10_takesPart_0 (x_X10_takesPart E d mc ms Post)) := sn_aload_n dX10_takesPart_0 rfl (sn_geti clX10 (by decide) w_1110 dX10_takesPart_1 (sn_iconst dX10_takesPart_4 (by decide) (sn_icmp_ne (tgt := 36) dX10_takesPart_5 (by decide) (b_X10_takesPart_36) (sn_aload_n dX10_takesPart_8 rfl (sn_geti clX10 (by decide) w_1108 dX10_takesPart_9 (sn_aload_n dX10_takesPart_12 rfl (sn_geti clX10 (by decide) w_1109 dX10_takesPart_13 (sn_isub dX10_takesPart_16 (sn_iconst dX10_takesPart_17 (by decide) (sn_icmp_ne (tgt := 36) dX10_takesPart_18 (by decide) (b_X10_takesPart_36) (sn_aload_n dX10_takesPart_21 rfl (sn_aload_n dX10_takesPart_22 rfl (sn_geti clX10 (by decide) w_1111 dX10_takesPart_23 (sn_cv w_1474 w_1476 w_51 w_66 rfl nm_X10_nameOf dX10_takesPart_26 (sn_if_lt (tgt := 36) dX10_takesPart_29 (by decide) (b_X10_takesPart_36) (sn_iconst dX10_takesPart_32 (by decide) (sn_goto (tgt := 37) dX10_takesPart_33 (by decide) (b_X10_takesPart_37))))))))))))))))))
theorem m_X10_takesPart {E : mh_E} {d mc ms : Nat} {args : List Value} {h : mh_H} {Post : Option Value → mh_H → Prop} (lv : List (Option Value)) (hl : lv_args 0 args = mh_al 0 lv) (hs : (lg_sl args).length ≤ 2) (hG : q_X10_takesPart_0 (x_X10_takesPart E d mc ms Post) lv [] h 0 0) : mh_M E d mc ms yX10_takesPart args h Post := mh_M.of w_1473 (by decide) (by decide) hl hs (b_X10_takesPart_0 _ _ _ _ _ hG)
theorem dX10_takesE_0 : decode cX10_takesE 0 = .ok (.iconst 0, 1) := by decide +kernel
theorem dX10_takesE_1 : decode cX10_takesE 1 = .ok (.istore_n 1, 1) := by decide +kernel
theorem dX10_takesE_2 : decode cX10_takesE 2 = .ok (.iconst 0, 1) := by decide +kernel
theorem dX10_takesE_3 : decode cX10_takesE 3 = .ok (.istore_n 2, 1) := by decide +kernel
theorem dX10_takesE_4 : decode cX10_takesE 4 = .ok (.iconst 1, 1) := by decide +kernel
theorem dX10_takesE_5 : decode cX10_takesE 5 = .ok (.istore_n 3, 1) := by decide +kernel
theorem dX10_takesE_6 : decode cX10_takesE 6 = .ok (.aload_n 0, 1) := by decide +kernel
theorem dX10_takesE_7 : decode cX10_takesE 7 = .ok (.iconst 0, 1) := by decide +kernel
theorem dX10_takesE_8 : decode cX10_takesE 8 = .ok (.putfield 227, 3) := by decide +kernel
theorem dX10_takesE_11 : decode cX10_takesE 11 = .ok (.aload_n 0, 1) := by decide +kernel
theorem dX10_takesE_12 : decode cX10_takesE 12 = .ok (.iconst 0, 1) := by decide +kernel
theorem dX10_takesE_13 : decode cX10_takesE 13 = .ok (.putfield 233, 3) := by decide +kernel
theorem dX10_takesE_16 : decode cX10_takesE 16 = .ok (.aload_n 0, 1) := by decide +kernel
theorem dX10_takesE_17 : decode cX10_takesE 17 = .ok (.iconst 0, 1) := by decide +kernel
theorem dX10_takesE_18 : decode cX10_takesE 18 = .ok (.putfield 221, 3) := by decide +kernel
theorem dX10_takesE_21 : decode cX10_takesE 21 = .ok (.aload_n 0, 1) := by decide +kernel
theorem dX10_takesE_22 : decode cX10_takesE 22 = .ok (.getfield 42, 3) := by decide +kernel
theorem dX10_takesE_25 : decode cX10_takesE 25 = .ok (.iconst 0, 1) := by decide +kernel
theorem dX10_takesE_26 : decode cX10_takesE 26 = .ok (.iconst 0, 1) := by decide +kernel
theorem dX10_takesE_27 : decode cX10_takesE 27 = .ok (.bastore, 1) := by decide +kernel
theorem dX10_takesE_28 : decode cX10_takesE 28 = .ok (.iload_n 3, 1) := by decide +kernel
theorem dX10_takesE_29 : decode cX10_takesE 29 = .ok (.ifCond .ne 10, 3) := by decide +kernel
theorem dX10_takesE_32 : decode cX10_takesE 32 = .ok (.aload_n 0, 1) := by decide +kernel
theorem dX10_takesE_33 : decode cX10_takesE 33 = .ok (.getfield 203, 3) := by decide +kernel
theorem dX10_takesE_36 : decode cX10_takesE 36 = .ok (.ifCond .eq 309, 3) := by decide +kernel
theorem dX10_takesE_39 : decode cX10_takesE 39 = .ok (.iload_n 3, 1) := by decide +kernel
theorem dX10_takesE_40 : decode cX10_takesE 40 = .ok (.ifCond .eq 140, 3) := by decide +kernel
theorem dX10_takesE_43 : decode cX10_takesE 43 = .ok (.aload_n 0, 1) := by decide +kernel
theorem dX10_takesE_44 : decode cX10_takesE 44 = .ok (.getfield 203, 3) := by decide +kernel
theorem dX10_takesE_47 : decode cX10_takesE 47 = .ok (.iconst 3, 1) := by decide +kernel
theorem dX10_takesE_48 : decode cX10_takesE 48 = .ok (.if_icmp .ne 49, 3) := by decide +kernel
theorem dX10_takesE_51 : decode cX10_takesE 51 = .ok (.aload_n 0, 1) := by decide +kernel
theorem dX10_takesE_52 : decode cX10_takesE 52 = .ok (.getfield 209, 3) := by decide +kernel
theorem dX10_takesE_55 : decode cX10_takesE 55 = .ok (.bipush 33, 2) := by decide +kernel
theorem dX10_takesE_57 : decode cX10_takesE 57 = .ok (.if_icmp .ne 40, 3) := by decide +kernel
theorem dX10_takesE_60 : decode cX10_takesE 60 = .ok (.iload_n 2, 1) := by decide +kernel
theorem dX10_takesE_61 : decode cX10_takesE 61 = .ok (.bipush 8, 2) := by decide +kernel
theorem dX10_takesE_63 : decode cX10_takesE 63 = .ok (.if_icmp .ge 34, 3) := by decide +kernel
theorem dX10_takesE_66 : decode cX10_takesE 66 = .ok (.aload_n 0, 1) := by decide +kernel
theorem dX10_takesE_67 : decode cX10_takesE 67 = .ok (.getfield 39, 3) := by decide +kernel
theorem dX10_takesE_70 : decode cX10_takesE 70 = .ok (.aload_n 0, 1) := by decide +kernel
theorem dX10_takesE_71 : decode cX10_takesE 71 = .ok (.getfield 221, 3) := by decide +kernel
theorem dX10_takesE_74 : decode cX10_takesE 74 = .ok (.bipush (-10), 2) := by decide +kernel
theorem dX10_takesE_76 : decode cX10_takesE 76 = .ok (.iastore, 1) := by decide +kernel
theorem dX10_takesE_77 : decode cX10_takesE 77 = .ok (.aload_n 0, 1) := by decide +kernel
theorem dX10_takesE_78 : decode cX10_takesE 78 = .ok (.dup, 1) := by decide +kernel
theorem dX10_takesE_79 : decode cX10_takesE 79 = .ok (.getfield 221, 3) := by decide +kernel
theorem dX10_takesE_82 : decode cX10_takesE 82 = .ok (.iconst 1, 1) := by decide +kernel
theorem dX10_takesE_83 : decode cX10_takesE 83 = .ok (.iadd, 1) := by decide +kernel
theorem dX10_takesE_84 : decode cX10_takesE 84 = .ok (.putfield 221, 3) := by decide +kernel
theorem dX10_takesE_87 : decode cX10_takesE 87 = .ok (.iinc 2 1, 3) := by decide +kernel
theorem dX10_takesE_90 : decode cX10_takesE 90 = .ok (.aload_n 0, 1) := by decide +kernel
theorem dX10_takesE_91 : decode cX10_takesE 91 = .ok (.invokevirtual 218, 3) := by decide +kernel
theorem dX10_takesE_94 : decode cX10_takesE 94 = .ok (.goto 78, 3) := by decide +kernel
theorem dX10_takesE_97 : decode cX10_takesE 97 = .ok (.aload_n 0, 1) := by decide +kernel
theorem dX10_takesE_98 : decode cX10_takesE 98 = .ok (.getfield 203, 3) := by decide +kernel
theorem dX10_takesE_101 : decode cX10_takesE 101 = .ok (.iconst 3, 1) := by decide +kernel
theorem dX10_takesE_102 : decode cX10_takesE 102 = .ok (.if_icmp .ne 56, 3) := by decide +kernel
theorem dX10_takesE_105 : decode cX10_takesE 105 = .ok (.aload_n 0, 1) := by decide +kernel
theorem dX10_takesE_106 : decode cX10_takesE 106 = .ok (.getfield 209, 3) := by decide +kernel
theorem dX10_takesE_109 : decode cX10_takesE 109 = .ok (.bipush 40, 2) := by decide +kernel
theorem dX10_takesE_111 : decode cX10_takesE 111 = .ok (.if_icmp .ne 47, 3) := by decide +kernel
theorem dX10_takesE_114 : decode cX10_takesE 114 = .ok (.iload_n 1, 1) := by decide +kernel
theorem dX10_takesE_115 : decode cX10_takesE 115 = .ok (.bipush 8, 2) := by decide +kernel
theorem dX10_takesE_117 : decode cX10_takesE 117 = .ok (.if_icmp .ge 41, 3) := by decide +kernel
theorem dX10_takesE_120 : decode cX10_takesE 120 = .ok (.aload_n 0, 1) := by decide +kernel
theorem dX10_takesE_121 : decode cX10_takesE 121 = .ok (.getfield 39, 3) := by decide +kernel
theorem dX10_takesE_124 : decode cX10_takesE 124 = .ok (.aload_n 0, 1) := by decide +kernel
theorem dX10_takesE_125 : decode cX10_takesE 125 = .ok (.getfield 221, 3) := by decide +kernel
theorem dX10_takesE_128 : decode cX10_takesE 128 = .ok (.bipush (-11), 2) := by decide +kernel
theorem dX10_takesE_130 : decode cX10_takesE 130 = .ok (.iastore, 1) := by decide +kernel
theorem dX10_takesE_131 : decode cX10_takesE 131 = .ok (.aload_n 0, 1) := by decide +kernel
theorem dX10_takesE_132 : decode cX10_takesE 132 = .ok (.dup, 1) := by decide +kernel
theorem dX10_takesE_133 : decode cX10_takesE 133 = .ok (.getfield 221, 3) := by decide +kernel
theorem dX10_takesE_136 : decode cX10_takesE 136 = .ok (.iconst 1, 1) := by decide +kernel
theorem dX10_takesE_137 : decode cX10_takesE 137 = .ok (.iadd, 1) := by decide +kernel
theorem dX10_takesE_138 : decode cX10_takesE 138 = .ok (.putfield 221, 3) := by decide +kernel
theorem dX10_takesE_141 : decode cX10_takesE 141 = .ok (.iinc 1 1, 3) := by decide +kernel
theorem dX10_takesE_144 : decode cX10_takesE 144 = .ok (.aload_n 0, 1) := by decide +kernel
theorem dX10_takesE_145 : decode cX10_takesE 145 = .ok (.getfield 42, 3) := by decide +kernel
theorem dX10_takesE_148 : decode cX10_takesE 148 = .ok (.iload_n 1, 1) := by decide +kernel
theorem dX10_takesE_149 : decode cX10_takesE 149 = .ok (.iconst 0, 1) := by decide +kernel
theorem dX10_takesE_150 : decode cX10_takesE 150 = .ok (.bastore, 1) := by decide +kernel
theorem dX10_takesE_151 : decode cX10_takesE 151 = .ok (.aload_n 0, 1) := by decide +kernel
theorem dX10_takesE_152 : decode cX10_takesE 152 = .ok (.invokevirtual 218, 3) := by decide +kernel
theorem dX10_takesE_155 : decode cX10_takesE 155 = .ok (.goto 17, 3) := by decide +kernel
theorem dX10_takesE_158 : decode cX10_takesE 158 = .ok (.aload_n 0, 1) := by decide +kernel
theorem dX10_takesE_159 : decode cX10_takesE 159 = .ok (.invokevirtual 239, 3) := by decide +kernel
theorem dX10_takesE_162 : decode cX10_takesE 162 = .ok (.ifCond .eq 8, 3) := by decide +kernel
theorem dX10_takesE_165 : decode cX10_takesE 165 = .ok (.iconst 0, 1) := by decide +kernel
theorem dX10_takesE_166 : decode cX10_takesE 166 = .ok (.istore_n 3, 1) := by decide +kernel
theorem dX10_takesE_167 : decode cX10_takesE 167 = .ok (.goto 5, 3) := by decide +kernel
theorem dX10_takesE_170 : decode cX10_takesE 170 = .ok (.iconst 0, 1) := by decide +kernel
theorem dX10_takesE_171 : decode cX10_takesE 171 = .ok (.ireturn, 1) := by decide +kernel
theorem dX10_takesE_172 : decode cX10_takesE 172 = .ok (.aload_n 0, 1) := by decide +kernel
theorem dX10_takesE_173 : decode cX10_takesE 173 = .ok (.invokevirtual 243, 3) := by decide +kernel
theorem dX10_takesE_176 : decode cX10_takesE 176 = .ok (.istore_n 2, 1) := by decide +kernel
theorem dX10_takesE_177 : decode cX10_takesE 177 = .ok (.goto (-149), 3) := by decide +kernel
theorem dX10_takesE_180 : decode cX10_takesE 180 = .ok (.aload_n 0, 1) := by decide +kernel
theorem dX10_takesE_181 : decode cX10_takesE 181 = .ok (.getfield 203, 3) := by decide +kernel
theorem dX10_takesE_184 : decode cX10_takesE 184 = .ok (.iconst 3, 1) := by decide +kernel
theorem dX10_takesE_185 : decode cX10_takesE 185 = .ok (.if_icmp .ne 52, 3) := by decide +kernel
theorem dX10_takesE_188 : decode cX10_takesE 188 = .ok (.aload_n 0, 1) := by decide +kernel
theorem dX10_takesE_189 : decode cX10_takesE 189 = .ok (.getfield 209, 3) := by decide +kernel
theorem dX10_takesE_192 : decode cX10_takesE 192 = .ok (.bipush 41, 2) := by decide +kernel
theorem dX10_takesE_194 : decode cX10_takesE 194 = .ok (.if_icmp .ne 43, 3) := by decide +kernel
theorem dX10_takesE_197 : decode cX10_takesE 197 = .ok (.iload_n 1, 1) := by decide +kernel
theorem dX10_takesE_198 : decode cX10_takesE 198 = .ok (.ifCond .le 39, 3) := by decide +kernel
theorem dX10_takesE_201 : decode cX10_takesE 201 = .ok (.aload_n 0, 1) := by decide +kernel
theorem dX10_takesE_202 : decode cX10_takesE 202 = .ok (.iconst 0, 1) := by decide +kernel
theorem dX10_takesE_203 : decode cX10_takesE 203 = .ok (.invokevirtual 236, 3) := by decide +kernel
theorem dX10_takesE_206 : decode cX10_takesE 206 = .ok (.aload_n 0, 1) := by decide +kernel
theorem dX10_takesE_207 : decode cX10_takesE 207 = .ok (.dup, 1) := by decide +kernel
theorem dX10_takesE_208 : decode cX10_takesE 208 = .ok (.getfield 221, 3) := by decide +kernel
theorem dX10_takesE_211 : decode cX10_takesE 211 = .ok (.iconst 1, 1) := by decide +kernel
theorem dX10_takesE_212 : decode cX10_takesE 212 = .ok (.isub, 1) := by decide +kernel
theorem dX10_takesE_213 : decode cX10_takesE 213 = .ok (.putfield 221, 3) := by decide +kernel
theorem dX10_takesE_216 : decode cX10_takesE 216 = .ok (.iinc 1 (-1), 3) := by decide +kernel
theorem dX10_takesE_219 : decode cX10_takesE 219 = .ok (.aload_n 0, 1) := by decide +kernel
theorem dX10_takesE_220 : decode cX10_takesE 220 = .ok (.bipush 6, 2) := by decide +kernel
theorem dX10_takesE_222 : decode cX10_takesE 222 = .ok (.invokevirtual 236, 3) := by decide +kernel
theorem dX10_takesE_225 : decode cX10_takesE 225 = .ok (.aload_n 0, 1) := by decide +kernel
theorem dX10_takesE_226 : decode cX10_takesE 226 = .ok (.invokevirtual 243, 3) := by decide +kernel
theorem dX10_takesE_229 : decode cX10_takesE 229 = .ok (.istore_n 2, 1) := by decide +kernel
theorem dX10_takesE_230 : decode cX10_takesE 230 = .ok (.aload_n 0, 1) := by decide +kernel
theorem dX10_takesE_231 : decode cX10_takesE 231 = .ok (.invokevirtual 218, 3) := by decide +kernel
theorem dX10_takesE_234 : decode cX10_takesE 234 = .ok (.goto (-206), 3) := by decide +kernel
theorem dX10_takesE_237 : decode cX10_takesE 237 = .ok (.aload_n 0, 1) := by decide +kernel
theorem dX10_takesE_238 : decode cX10_takesE 238 = .ok (.invokevirtual 246, 3) := by decide +kernel
theorem dX10_takesE_241 : decode cX10_takesE 241 = .ok (.istore 4, 2) := by decide +kernel
theorem dX10_takesE_243 : decode cX10_takesE 243 = .ok (.iload 4, 2) := by decide +kernel
theorem dX10_takesE_245 : decode cX10_takesE 245 = .ok (.ifCond .eq 21, 3) := by decide +kernel
theorem dX10_takesE_248 : decode cX10_takesE 248 = .ok (.iload 4, 2) := by decide +kernel
theorem dX10_takesE_250 : decode cX10_takesE 250 = .ok (.invokestatic 224, 3) := by decide +kernel
theorem dX10_takesE_253 : decode cX10_takesE 253 = .ok (.iconst 3, 1) := by decide +kernel
theorem dX10_takesE_254 : decode cX10_takesE 254 = .ok (.if_icmp .ne 14, 3) := by decide +kernel
theorem dX10_takesE_257 : decode cX10_takesE 257 = .ok (.aload_n 0, 1) := by decide +kernel
theorem dX10_takesE_258 : decode cX10_takesE 258 = .ok (.getfield 42, 3) := by decide +kernel
theorem dX10_takesE_261 : decode cX10_takesE 261 = .ok (.iload_n 1, 1) := by decide +kernel
theorem dX10_takesE_262 : decode cX10_takesE 262 = .ok (.baload, 1) := by decide +kernel
theorem dX10_takesE_263 : decode cX10_takesE 263 = .ok (.ifCond .eq 5, 3) := by decide +kernel
theorem dX10_takesE_266 : decode cX10_takesE 266 = .ok (.iconst 0, 1) := by decide +kernel
theorem dX10_takesE_267 : decode cX10_takesE 267 = .ok (.ireturn, 1) := by decide +kernel
theorem dX10_takesE_268 : decode cX10_takesE 268 = .ok (.aload_n 0, 1) := by decide +kernel
theorem dX10_takesE_269 : decode cX10_takesE 269 = .ok (.getfield 42, 3) := by decide +kernel
theorem dX10_takesE_272 : decode cX10_takesE 272 = .ok (.iload_n 1, 1) := by decide +kernel
theorem dX10_takesE_273 : decode cX10_takesE 273 = .ok (.iload 4, 2) := by decide +kernel
theorem dX10_takesE_275 : decode cX10_takesE 275 = .ok (.invokestatic 224, 3) := by decide +kernel
theorem dX10_takesE_278 : decode cX10_takesE 278 = .ok (.iconst 3, 1) := by decide +kernel
theorem dX10_takesE_279 : decode cX10_takesE 279 = .ok (.if_icmp .eq 21, 3) := by decide +kernel
theorem dX10_takesE_282 : decode cX10_takesE 282 = .ok (.iload 4, 2) := by decide +kernel
theorem dX10_takesE_284 : decode cX10_takesE 284 = .ok (.invokestatic 224, 3) := by decide +kernel
theorem dX10_takesE_287 : decode cX10_takesE 287 = .ok (.iconst 3, 1) := by decide +kernel
theorem dX10_takesE_288 : decode cX10_takesE 288 = .ok (.if_icmp .le 16, 3) := by decide +kernel
theorem dX10_takesE_291 : decode cX10_takesE 291 = .ok (.aload_n 0, 1) := by decide +kernel
theorem dX10_takesE_292 : decode cX10_takesE 292 = .ok (.getfield 42, 3) := by decide +kernel
theorem dX10_takesE_295 : decode cX10_takesE 295 = .ok (.iload_n 1, 1) := by decide +kernel
theorem dX10_takesE_296 : decode cX10_takesE 296 = .ok (.baload, 1) := by decide +kernel
theorem dX10_takesE_297 : decode cX10_takesE 297 = .ok (.ifCond .eq 7, 3) := by decide +kernel
theorem dX10_takesE_300 : decode cX10_takesE 300 = .ok (.iconst 1, 1) := by decide +kernel
theorem dX10_takesE_301 : decode cX10_takesE 301 = .ok (.goto 4, 3) := by decide +kernel
theorem dX10_takesE_304 : decode cX10_takesE 304 = .ok (.iconst 0, 1) := by decide +kernel
theorem dX10_takesE_305 : decode cX10_takesE 305 = .ok (.bastore, 1) := by decide +kernel
theorem dX10_takesE_306 : decode cX10_takesE 306 = .ok (.aload_n 0, 1) := by decide +kernel
theorem dX10_takesE_307 : decode cX10_takesE 307 = .ok (.iload 4, 2) := by decide +kernel
theorem dX10_takesE_309 : decode cX10_takesE 309 = .ok (.invokestatic 224, 3) := by decide +kernel
theorem dX10_takesE_312 : decode cX10_takesE 312 = .ok (.invokevirtual 236, 3) := by decide +kernel
theorem dX10_takesE_315 : decode cX10_takesE 315 = .ok (.aload_n 0, 1) := by decide +kernel
theorem dX10_takesE_316 : decode cX10_takesE 316 = .ok (.getfield 39, 3) := by decide +kernel
theorem dX10_takesE_319 : decode cX10_takesE 319 = .ok (.aload_n 0, 1) := by decide +kernel
theorem dX10_takesE_320 : decode cX10_takesE 320 = .ok (.getfield 221, 3) := by decide +kernel
theorem dX10_takesE_323 : decode cX10_takesE 323 = .ok (.iload 4, 2) := by decide +kernel
theorem dX10_takesE_325 : decode cX10_takesE 325 = .ok (.iastore, 1) := by decide +kernel
theorem dX10_takesE_326 : decode cX10_takesE 326 = .ok (.aload_n 0, 1) := by decide +kernel
theorem dX10_takesE_327 : decode cX10_takesE 327 = .ok (.dup, 1) := by decide +kernel
theorem dX10_takesE_328 : decode cX10_takesE 328 = .ok (.getfield 221, 3) := by decide +kernel
theorem dX10_takesE_331 : decode cX10_takesE 331 = .ok (.iconst 1, 1) := by decide +kernel
theorem dX10_takesE_332 : decode cX10_takesE 332 = .ok (.iadd, 1) := by decide +kernel
theorem dX10_takesE_333 : decode cX10_takesE 333 = .ok (.putfield 221, 3) := by decide +kernel
theorem dX10_takesE_336 : decode cX10_takesE 336 = .ok (.iconst 1, 1) := by decide +kernel
theorem dX10_takesE_337 : decode cX10_takesE 337 = .ok (.istore_n 3, 1) := by decide +kernel
theorem dX10_takesE_338 : decode cX10_takesE 338 = .ok (.aload_n 0, 1) := by decide +kernel
theorem dX10_takesE_339 : decode cX10_takesE 339 = .ok (.invokevirtual 218, 3) := by decide +kernel
theorem dX10_takesE_342 : decode cX10_takesE 342 = .ok (.goto (-314), 3) := by decide +kernel
theorem dX10_takesE_345 : decode cX10_takesE 345 = .ok (.aload_n 0, 1) := by decide +kernel
theorem dX10_takesE_346 : decode cX10_takesE 346 = .ok (.iconst 0, 1) := by decide +kernel
theorem dX10_takesE_347 : decode cX10_takesE 347 = .ok (.invokevirtual 236, 3) := by decide +kernel
theorem dX10_takesE_350 : decode cX10_takesE 350 = .ok (.iload_n 1, 1) := by decide +kernel
theorem dX10_takesE_351 : decode cX10_takesE 351 = .ok (.ifCond .ne 7, 3) := by decide +kernel
theorem dX10_takesE_354 : decode cX10_takesE 354 = .ok (.iconst 1, 1) := by decide +kernel
theorem dX10_takesE_355 : decode cX10_takesE 355 = .ok (.goto 4, 3) := by decide +kernel
theorem dX10_takesE_358 : decode cX10_takesE 358 = .ok (.iconst 0, 1) := by decide +kernel
theorem dX10_takesE_359 : decode cX10_takesE 359 = .ok (.ireturn, 1) := by decide +kernel
abbrev x_X10_takesE (E : mh_E) (d mc ms : Nat) (Post : Option Value → mh_H → Prop) : mh_X := (E, yX10_takesE, cX10_takesE, 5, (some .boolean), d, mc, ms, Post)
def q_X10_takesE_359 (X : mh_X) : mh_PR := s_zret X
theorem b_X10_takesE_359 {E : mh_E} {d mc ms : Nat} {Post : Option Value → mh_H → Prop} : mh_S (x_X10_takesE E d mc ms Post) 359 (q_X10_takesE_359 (x_X10_takesE E d mc ms Post)) := sn_zret rfl dX10_takesE_359
def q_X10_takesE_305 (X : mh_X) : mh_PR := s_ast 2 (vp_nar .boolean) (s_al 0 (s_il 4 (s_cs X yX10_rank 1 (s_cv X yX10_settle 10 1 (s_al 0 (s_gr 10 19 (s_al 0 (s_gi 10 20 (s_il 4 (s_ast 0 (fun x => x) (s_al 0 (s_dup (s_gi 10 20 (s_push (.int (1)) (s_bin (fun x y => x + y) (s_pi 10 20 (s_push (.int (1)) (s_is 3 (s_al 0 (s_cv X yX10_go 10 0 (mh_G X 28)))))))))))))))))))))
theorem b_X10_takesE_305 {E : mh_E} {d mc ms : Nat} {Post : Option Value → mh_H → Prop} : mh_S (x_X10_takesE E d mc ms Post) 305 (q_X10_takesE_305 (x_X10_takesE E d mc ms Post)) := sn_bastore dX10_takesE_305 (sn_aload_n dX10_takesE_306 rfl (sn_iload dX10_takesE_307 (sn_cs w_1482 w_1483 w_66 nm_X10_rank dX10_takesE_309 (sn_cv w_1478 w_1480 w_52 w_66 rfl nm_X10_settle dX10_takesE_312 (sn_aload_n dX10_takesE_315 rfl (sn_getr clX10 (by decide) w_1119 dX10_takesE_316 (sn_aload_n dX10_takesE_319 rfl (sn_geti clX10 (by decide) w_1120 dX10_takesE_320 (sn_iload dX10_takesE_323 (sn_iastore dX10_takesE_325 (sn_aload_n dX10_takesE_326 rfl (sn_dup dX10_takesE_327 (sn_geti clX10 (by decide) w_1120 dX10_takesE_328 (sn_iconst dX10_takesE_331 (by decide) (sn_iadd dX10_takesE_332 (sn_puti clX10 (by decide) w_1120 rfl rfl dX10_takesE_333 (sn_iconst dX10_takesE_336 (by decide) (sn_istore_n dX10_takesE_337 rfl (Nat.le_of_ble_eq_true rfl) (sn_aload_n dX10_takesE_338 rfl (sn_cv w_1450 w_1452 w_45 w_66 rfl nm_X10_go dX10_takesE_339 (sn_goto (tgt := 28) dX10_takesE_342 (by decide) (mh_S.G))))))))))))))))))))))
def q_X10_takesE_304 (X : mh_X) : mh_PR := s_push (.int (0)) (q_X10_takesE_305 X)
theorem b_X10_takesE_304 {E : mh_E} {d mc ms : Nat} {Post : Option Value → mh_H → Prop} : mh_S (x_X10_takesE E d mc ms Post) 304 (q_X10_takesE_304 (x_X10_takesE E d mc ms Post)) := sn_iconst dX10_takesE_304 (by decide) b_X10_takesE_305
def q_X10_takesE_300 (X : mh_X) : mh_PR := s_push (.int (1)) (q_X10_takesE_305 X)
theorem b_X10_takesE_300 {E : mh_E} {d mc ms : Nat} {Post : Option Value → mh_H → Prop} : mh_S (x_X10_takesE E d mc ms Post) 300 (q_X10_takesE_300 (x_X10_takesE E d mc ms Post)) := sn_iconst dX10_takesE_300 (by decide) (sn_goto (tgt := 305) dX10_takesE_301 (by decide) (b_X10_takesE_305))
def q_X10_takesE_268 (X : mh_X) : mh_PR := s_al 0 (s_gr 10 21 (s_il 1 (s_il 4 (s_cs X yX10_rank 1 (s_push (.int (3)) (s_if2 (fun x y => x = y) (q_X10_takesE_300 X) (s_il 4 (s_cs X yX10_rank 1 (s_push (.int (3)) (s_if2 (fun x y => x ≤ y) (q_X10_takesE_304 X) (s_al 0 (s_gr 10 21 (s_il 1 (s_ald 2 (s_if1 (fun x => x = 0) (q_X10_takesE_304 X) (q_X10_takesE_300 X))))))))))))))))
theorem b_X10_takesE_268 {E : mh_E} {d mc ms : Nat} {Post : Option Value → mh_H → Prop} : mh_S (x_X10_takesE E d mc ms Post) 268 (q_X10_takesE_268 (x_X10_takesE E d mc ms Post)) := sn_aload_n dX10_takesE_268 rfl (sn_getr clX10 (by decide) w_1121 dX10_takesE_269 (sn_iload_n dX10_takesE_272 rfl (sn_iload dX10_takesE_273 (sn_cs w_1482 w_1483 w_66 nm_X10_rank dX10_takesE_275 (sn_iconst dX10_takesE_278 (by decide) (sn_icmp_eq (tgt := 300) dX10_takesE_279 (by decide) (b_X10_takesE_300) (sn_iload dX10_takesE_282 (sn_cs w_1482 w_1483 w_66 nm_X10_rank dX10_takesE_284 (sn_iconst dX10_takesE_287 (by decide) (sn_icmp_le (tgt := 304) dX10_takesE_288 (by decide) (b_X10_takesE_304) (sn_aload_n dX10_takesE_291 rfl (sn_getr clX10 (by decide) w_1121 dX10_takesE_292 (sn_iload_n dX10_takesE_295 rfl (sn_baload dX10_takesE_296 (sn_if_eq (tgt := 304) dX10_takesE_297 (by decide) (b_X10_takesE_304) (b_X10_takesE_300))))))))))))))))
def q_X10_takesE_266 (X : mh_X) : mh_PR := s_push (.int (0)) (s_zret X)
theorem b_X10_takesE_266 {E : mh_E} {d mc ms : Nat} {Post : Option Value → mh_H → Prop} : mh_S (x_X10_takesE E d mc ms Post) 266 (q_X10_takesE_266 (x_X10_takesE E d mc ms Post)) := sn_iconst dX10_takesE_266 (by decide) (sn_zret rfl dX10_takesE_267)
def q_X10_takesE_237 (X : mh_X) : mh_PR := s_al 0 (s_cv X yX10_signHere 10 0 (s_is 4 (s_il 4 (s_if1 (fun x => x = 0) (q_X10_takesE_266 X) (s_il 4 (s_cs X yX10_rank 1 (s_push (.int (3)) (s_if2 (fun x y => ¬ x = y) (q_X10_takesE_268 X) (s_al 0 (s_gr 10 21 (s_il 1 (s_ald 2 (s_if1 (fun x => x = 0) (q_X10_takesE_268 X) (q_X10_takesE_266 X))))))))))))))
theorem b_X10_takesE_237 {E : mh_E} {d mc ms : Nat} {Post : Option Value → mh_H → Prop} : mh_S (x_X10_takesE E d mc ms Post) 237 (q_X10_takesE_237 (x_X10_takesE E d mc ms Post)) := sn_aload_n dX10_takesE_237 rfl (sn_cv w_1489 w_1491 w_54 w_66 rfl nm_X10_signHere dX10_takesE_238 (sn_istore dX10_takesE_241 (Nat.le_of_ble_eq_true rfl) (sn_iload dX10_takesE_243 (sn_if_eq (tgt := 266) dX10_takesE_245 (by decide) (b_X10_takesE_266) (sn_iload dX10_takesE_248 (sn_cs w_1482 w_1483 w_66 nm_X10_rank dX10_takesE_250 (sn_iconst dX10_takesE_253 (by decide) (sn_icmp_ne (tgt := 268) dX10_takesE_254 (by decide) (b_X10_takesE_268) (sn_aload_n dX10_takesE_257 rfl (sn_getr clX10 (by decide) w_1121 dX10_takesE_258 (sn_iload_n dX10_takesE_261 rfl (sn_baload dX10_takesE_262 (sn_if_eq (tgt := 268) dX10_takesE_263 (by decide) (b_X10_takesE_268) (b_X10_takesE_266))))))))))))))
def q_X10_takesE_172 (X : mh_X) : mh_PR := s_al 0 (s_cv X yX10_notsOpen 10 0 (s_is 2 (mh_G X 28)))
theorem b_X10_takesE_172 {E : mh_E} {d mc ms : Nat} {Post : Option Value → mh_H → Prop} : mh_S (x_X10_takesE E d mc ms Post) 172 (q_X10_takesE_172 (x_X10_takesE E d mc ms Post)) := sn_aload_n dX10_takesE_172 rfl (sn_cv w_1485 w_1487 w_53 w_66 rfl nm_X10_notsOpen dX10_takesE_173 (sn_istore_n dX10_takesE_176 rfl (Nat.le_of_ble_eq_true rfl) (sn_goto (tgt := 28) dX10_takesE_177 (by decide) (mh_S.G))))
def q_X10_takesE_158 (X : mh_X) : mh_PR := s_al 0 (s_cv X yX10_takesPart 10 0 (s_if1 (fun x => x = 0) (s_push (.int (0)) (s_zret X)) (s_push (.int (0)) (s_is 3 (q_X10_takesE_172 X)))))
theorem b_X10_takesE_158 {E : mh_E} {d mc ms : Nat} {Post : Option Value → mh_H → Prop} : mh_S (x_X10_takesE E d mc ms Post) 158 (q_X10_takesE_158 (x_X10_takesE E d mc ms Post)) := sn_aload_n dX10_takesE_158 rfl (sn_cv w_1470 w_1472 w_50 w_66 rfl nm_X10_takesPart dX10_takesE_159 (sn_if_eq (tgt := 170) dX10_takesE_162 (by decide) (sn_iconst dX10_takesE_170 (by decide) (sn_zret rfl dX10_takesE_171)) (sn_iconst dX10_takesE_165 (by decide) (sn_istore_n dX10_takesE_166 rfl (Nat.le_of_ble_eq_true rfl) (sn_goto (tgt := 172) dX10_takesE_167 (by decide) (b_X10_takesE_172))))))
def q_X10_takesE_97 (X : mh_X) : mh_PR := s_al 0 (s_gi 10 10 (s_push (.int (3)) (s_if2 (fun x y => ¬ x = y) (q_X10_takesE_158 X) (s_al 0 (s_gi 10 11 (s_push (.int (40)) (s_if2 (fun x y => ¬ x = y) (q_X10_takesE_158 X) (s_il 1 (s_push (.int (8)) (s_if2 (fun x y => y ≤ x) (q_X10_takesE_158 X) (s_al 0 (s_gr 10 19 (s_al 0 (s_gi 10 20 (s_push (.int (-11)) (s_ast 0 (fun x => x) (s_al 0 (s_dup (s_gi 10 20 (s_push (.int (1)) (s_bin (fun x y => x + y) (s_pi 10 20 (s_inc 1 (1) (s_al 0 (s_gr 10 21 (s_il 1 (s_push (.int (0)) (s_ast 2 (vp_nar .boolean) (s_al 0 (s_cv X yX10_go 10 0 (q_X10_takesE_172 X)))))))))))))))))))))))))))))))
theorem b_X10_takesE_97 {E : mh_E} {d mc ms : Nat} {Post : Option Value → mh_H → Prop} : mh_S (x_X10_takesE E d mc ms Post) 97 (q_X10_takesE_97 (x_X10_takesE E d mc ms Post)) := sn_aload_n dX10_takesE_97 rfl (sn_geti clX10 (by decide) w_1110 dX10_takesE_98 (sn_iconst dX10_takesE_101 (by decide) (sn_icmp_ne (tgt := 158) dX10_takesE_102 (by decide) (b_X10_takesE_158) (sn_aload_n dX10_takesE_105 rfl (sn_geti clX10 (by decide) w_1111 dX10_takesE_106 (sn_bipush dX10_takesE_109 (by decide) (sn_icmp_ne (tgt := 158) dX10_takesE_111 (by decide) (b_X10_takesE_158) (sn_iload_n dX10_takesE_114 rfl (sn_bipush dX10_takesE_115 (by decide) (sn_icmp_ge (tgt := 158) dX10_takesE_117 (by decide) (b_X10_takesE_158) (sn_aload_n dX10_takesE_120 rfl (sn_getr clX10 (by decide) w_1119 dX10_takesE_121 (sn_aload_n dX10_takesE_124 rfl (sn_geti clX10 (by decide) w_1120 dX10_takesE_125 (sn_bipush dX10_takesE_128 (by decide) (sn_iastore dX10_takesE_130 (sn_aload_n dX10_takesE_131 rfl (sn_dup dX10_takesE_132 (sn_geti clX10 (by decide) w_1120 dX10_takesE_133 (sn_iconst dX10_takesE_136 (by decide) (sn_iadd dX10_takesE_137 (sn_puti clX10 (by decide) w_1120 rfl rfl dX10_takesE_138 (sn_iinc dX10_takesE_141 (by decide) (Nat.le_of_ble_eq_true rfl) (sn_aload_n dX10_takesE_144 rfl (sn_getr clX10 (by decide) w_1121 dX10_takesE_145 (sn_iload_n dX10_takesE_148 rfl (sn_iconst dX10_takesE_149 (by decide) (sn_bastore dX10_takesE_150 (sn_aload_n dX10_takesE_151 rfl (sn_cv w_1450 w_1452 w_45 w_66 rfl nm_X10_go dX10_takesE_152 (sn_goto (tgt := 172) dX10_takesE_155 (by decide) (b_X10_takesE_172))))))))))))))))))))))))))))))))
def q_X10_takesE_39 (X : mh_X) : mh_PR := s_il 3 (s_if1 (fun x => x = 0) (s_al 0 (s_gi 10 10 (s_push (.int (3)) (s_if2 (fun x y => ¬ x = y) (q_X10_takesE_237 X) (s_al 0 (s_gi 10 11 (s_push (.int (41)) (s_if2 (fun x y => ¬ x = y) (q_X10_takesE_237 X) (s_il 1 (s_if1 (fun x => x ≤ 0) (q_X10_takesE_237 X) (s_al 0 (s_push (.int (0)) (s_cv X yX10_settle 10 1 (s_al 0 (s_dup (s_gi 10 20 (s_push (.int (1)) (s_bin (fun x y => x - y) (s_pi 10 20 (s_inc 1 (-1) (s_al 0 (s_push (.int (6)) (s_cv X yX10_settle 10 1 (s_al 0 (s_cv X yX10_notsOpen 10 0 (s_is 2 (s_al 0 (s_cv X yX10_go 10 0 (mh_G X 28))))))))))))))))))))))))))))) (s_al 0 (s_gi 10 10 (s_push (.int (3)) (s_if2 (fun x y => ¬ x = y) (q_X10_takesE_97 X) (s_al 0 (s_gi 10 11 (s_push (.int (33)) (s_if2 (fun x y => ¬ x = y) (q_X10_takesE_97 X) (s_il 2 (s_push (.int (8)) (s_if2 (fun x y => y ≤ x) (q_X10_takesE_97 X) (s_al 0 (s_gr 10 19 (s_al 0 (s_gi 10 20 (s_push (.int (-10)) (s_ast 0 (fun x => x) (s_al 0 (s_dup (s_gi 10 20 (s_push (.int (1)) (s_bin (fun x y => x + y) (s_pi 10 20 (s_inc 2 (1) (s_al 0 (s_cv X yX10_go 10 0 (q_X10_takesE_172 X))))))))))))))))))))))))))))
theorem b_X10_takesE_39 {E : mh_E} {d mc ms : Nat} {Post : Option Value → mh_H → Prop} : mh_S (x_X10_takesE E d mc ms Post) 39 (q_X10_takesE_39 (x_X10_takesE E d mc ms Post)) := sn_iload_n dX10_takesE_39 rfl (sn_if_eq (tgt := 180) dX10_takesE_40 (by decide) (sn_aload_n dX10_takesE_180 rfl (sn_geti clX10 (by decide) w_1110 dX10_takesE_181 (sn_iconst dX10_takesE_184 (by decide) (sn_icmp_ne (tgt := 237) dX10_takesE_185 (by decide) (b_X10_takesE_237) (sn_aload_n dX10_takesE_188 rfl (sn_geti clX10 (by decide) w_1111 dX10_takesE_189 (sn_bipush dX10_takesE_192 (by decide) (sn_icmp_ne (tgt := 237) dX10_takesE_194 (by decide) (b_X10_takesE_237) (sn_iload_n dX10_takesE_197 rfl (sn_if_le (tgt := 237) dX10_takesE_198 (by decide) (b_X10_takesE_237) (sn_aload_n dX10_takesE_201 rfl (sn_iconst dX10_takesE_202 (by decide) (sn_cv w_1478 w_1480 w_52 w_66 rfl nm_X10_settle dX10_takesE_203 (sn_aload_n dX10_takesE_206 rfl (sn_dup dX10_takesE_207 (sn_geti clX10 (by decide) w_1120 dX10_takesE_208 (sn_iconst dX10_takesE_211 (by decide) (sn_isub dX10_takesE_212 (sn_puti clX10 (by decide) w_1120 rfl rfl dX10_takesE_213 (sn_iinc dX10_takesE_216 (by decide) (Nat.le_of_ble_eq_true rfl) (sn_aload_n dX10_takesE_219 rfl (sn_bipush dX10_takesE_220 (by decide) (sn_cv w_1478 w_1480 w_52 w_66 rfl nm_X10_settle dX10_takesE_222 (sn_aload_n dX10_takesE_225 rfl (sn_cv w_1485 w_1487 w_53 w_66 rfl nm_X10_notsOpen dX10_takesE_226 (sn_istore_n dX10_takesE_229 rfl (Nat.le_of_ble_eq_true rfl) (sn_aload_n dX10_takesE_230 rfl (sn_cv w_1450 w_1452 w_45 w_66 rfl nm_X10_go dX10_takesE_231 (sn_goto (tgt := 28) dX10_takesE_234 (by decide) (mh_S.G)))))))))))))))))))))))))))))) (sn_aload_n dX10_takesE_43 rfl (sn_geti clX10 (by decide) w_1110 dX10_takesE_44 (sn_iconst dX10_takesE_47 (by decide) (sn_icmp_ne (tgt := 97) dX10_takesE_48 (by decide) (b_X10_takesE_97) (sn_aload_n dX10_takesE_51 rfl (sn_geti clX10 (by decide) w_1111 dX10_takesE_52 (sn_bipush dX10_takesE_55 (by decide) (sn_icmp_ne (tgt := 97) dX10_takesE_57 (by decide) (b_X10_takesE_97) (sn_iload_n dX10_takesE_60 rfl (sn_bipush dX10_takesE_61 (by decide) (sn_icmp_ge (tgt := 97) dX10_takesE_63 (by decide) (b_X10_takesE_97) (sn_aload_n dX10_takesE_66 rfl (sn_getr clX10 (by decide) w_1119 dX10_takesE_67 (sn_aload_n dX10_takesE_70 rfl (sn_geti clX10 (by decide) w_1120 dX10_takesE_71 (sn_bipush dX10_takesE_74 (by decide) (sn_iastore dX10_takesE_76 (sn_aload_n dX10_takesE_77 rfl (sn_dup dX10_takesE_78 (sn_geti clX10 (by decide) w_1120 dX10_takesE_79 (sn_iconst dX10_takesE_82 (by decide) (sn_iadd dX10_takesE_83 (sn_puti clX10 (by decide) w_1120 rfl rfl dX10_takesE_84 (sn_iinc dX10_takesE_87 (by decide) (Nat.le_of_ble_eq_true rfl) (sn_aload_n dX10_takesE_90 rfl (sn_cv w_1450 w_1452 w_45 w_66 rfl nm_X10_go dX10_takesE_91 (sn_goto (tgt := 172) dX10_takesE_94 (by decide) (b_X10_takesE_172)))))))))))))))))))))))))))))
def q_X10_takesE_28 (X : mh_X) : mh_PR := s_il 3 (s_if1 (fun x => ¬ x = 0) (q_X10_takesE_39 X) (s_al 0 (s_gi 10 10 (s_if1 (fun x => x = 0) (s_al 0 (s_push (.int (0)) (s_cv X yX10_settle 10 1 (s_il 1 (s_if1 (fun x => ¬ x = 0) (s_push (.int (0)) (q_X10_takesE_359 X)) (s_push (.int (1)) (q_X10_takesE_359 X))))))) (q_X10_takesE_39 X)))))
theorem b_X10_takesE_28 {E : mh_E} {d mc ms : Nat} {Post : Option Value → mh_H → Prop} : mh_S (x_X10_takesE E d mc ms Post) 28 (q_X10_takesE_28 (x_X10_takesE E d mc ms Post)) := sn_iload_n dX10_takesE_28 rfl (sn_if_ne (tgt := 39) dX10_takesE_29 (by decide) (b_X10_takesE_39) (sn_aload_n dX10_takesE_32 rfl (sn_geti clX10 (by decide) w_1110 dX10_takesE_33 (sn_if_eq (tgt := 345) dX10_takesE_36 (by decide) (sn_aload_n dX10_takesE_345 rfl (sn_iconst dX10_takesE_346 (by decide) (sn_cv w_1478 w_1480 w_52 w_66 rfl nm_X10_settle dX10_takesE_347 (sn_iload_n dX10_takesE_350 rfl (sn_if_ne (tgt := 358) dX10_takesE_351 (by decide) (sn_iconst dX10_takesE_358 (by decide) b_X10_takesE_359) (sn_iconst dX10_takesE_354 (by decide) (sn_goto (tgt := 359) dX10_takesE_355 (by decide) (b_X10_takesE_359)))))))) (b_X10_takesE_39)))))
def q_X10_takesE_0 (X : mh_X) : mh_PR := s_push (.int (0)) (s_is 1 (s_push (.int (0)) (s_is 2 (s_push (.int (1)) (s_is 3 (s_al 0 (s_push (.int (0)) (s_pi 10 17 (s_al 0 (s_push (.int (0)) (s_pi 10 18 (s_al 0 (s_push (.int (0)) (s_pi 10 20 (s_al 0 (s_gr 10 21 (s_push (.int (0)) (s_push (.int (0)) (s_ast 2 (vp_nar .boolean) (mh_G X 28))))))))))))))))))))
theorem b_X10_takesE_0 {E : mh_E} {d mc ms : Nat} {Post : Option Value → mh_H → Prop} : mh_S (x_X10_takesE E d mc ms Post) 0 (q_X10_takesE_0 (x_X10_takesE E d mc ms Post)) := sn_iconst dX10_takesE_0 (by decide) (sn_istore_n dX10_takesE_1 rfl (Nat.le_of_ble_eq_true rfl) (sn_iconst dX10_takesE_2 (by decide) (sn_istore_n dX10_takesE_3 rfl (Nat.le_of_ble_eq_true rfl) (sn_iconst dX10_takesE_4 (by decide) (sn_istore_n dX10_takesE_5 rfl (Nat.le_of_ble_eq_true rfl) (sn_aload_n dX10_takesE_6 rfl (sn_iconst dX10_takesE_7 (by decide) (sn_puti clX10 (by decide) w_1117 rfl rfl dX10_takesE_8 (sn_aload_n dX10_takesE_11 rfl (sn_iconst dX10_takesE_12 (by decide) (sn_puti clX10 (by decide) w_1118 rfl rfl dX10_takesE_13 (sn_aload_n dX10_takesE_16 rfl (sn_iconst dX10_takesE_17 (by decide) (sn_puti clX10 (by decide) w_1120 rfl rfl dX10_takesE_18 (sn_aload_n dX10_takesE_21 rfl (sn_getr clX10 (by decide) w_1121 dX10_takesE_22 (sn_iconst dX10_takesE_25 (by decide) (sn_iconst dX10_takesE_26 (by decide) (sn_bastore dX10_takesE_27 mh_S.G)))))))))))))))))))
theorem m_X10_takesE {E : mh_E} {d mc ms : Nat} {args : List Value} {h : mh_H} {Post : Option Value → mh_H → Prop} (lv : List (Option Value)) (hl : lv_args 0 args = mh_al 0 lv) (hs : (lg_sl args).length ≤ 5) (hG : q_X10_takesE_0 (x_X10_takesE E d mc ms Post) lv [] h 0 0) : mh_M E d mc ms yX10_takesE args h Post := mh_M.of w_1469 (by decide) (by decide) hl hs (b_X10_takesE_0 _ _ _ _ _ hG)
theorem dX10_text_0 : decode cX10_text 0 = .ok (.aload_n 0, 1) := by decide +kernel
theorem dX10_text_1 : decode cX10_text 1 = .ok (.iconst 0, 1) := by decide +kernel
theorem dX10_text_2 : decode cX10_text 2 = .ok (.putfield 194, 3) := by decide +kernel
theorem dX10_text_5 : decode cX10_text 5 = .ok (.aload_n 0, 1) := by decide +kernel
theorem dX10_text_6 : decode cX10_text 6 = .ok (.iconst (-1), 1) := by decide +kernel
theorem dX10_text_7 : decode cX10_text 7 = .ok (.putfield 200, 3) := by decide +kernel
theorem dX10_text_10 : decode cX10_text 10 = .ok (.aload_n 0, 1) := by decide +kernel
theorem dX10_text_11 : decode cX10_text 11 = .ok (.invokevirtual 218, 3) := by decide +kernel
theorem dX10_text_14 : decode cX10_text 14 = .ok (.aload_n 0, 1) := by decide +kernel
theorem dX10_text_15 : decode cX10_text 15 = .ok (.invokevirtual 249, 3) := by decide +kernel
theorem dX10_text_18 : decode cX10_text 18 = .ok (.ifCond .eq 14, 3) := by decide +kernel
theorem dX10_text_21 : decode cX10_text 21 = .ok (.aload_n 0, 1) := by decide +kernel
theorem dX10_text_22 : decode cX10_text 22 = .ok (.invokevirtual 252, 3) := by decide +kernel
theorem dX10_text_25 : decode cX10_text 25 = .ok (.ifCond .eq 7, 3) := by decide +kernel
theorem dX10_text_28 : decode cX10_text 28 = .ok (.iconst 1, 1) := by decide +kernel
theorem dX10_text_29 : decode cX10_text 29 = .ok (.goto 4, 3) := by decide +kernel
theorem dX10_text_32 : decode cX10_text 32 = .ok (.iconst 0, 1) := by decide +kernel
theorem dX10_text_33 : decode cX10_text 33 = .ok (.istore_n 1, 1) := by decide +kernel
theorem dX10_text_34 : decode cX10_text 34 = .ok (.aload_n 0, 1) := by decide +kernel
theorem dX10_text_35 : decode cX10_text 35 = .ok (.iconst 0, 1) := by decide +kernel
theorem dX10_text_36 : decode cX10_text 36 = .ok (.putfield 190, 3) := by decide +kernel
theorem dX10_text_39 : decode cX10_text 39 = .ok (.iload_n 1, 1) := by decide +kernel
theorem dX10_text_40 : decode cX10_text 40 = .ok (.ifCond .ne 11, 3) := by decide +kernel
theorem dX10_text_43 : decode cX10_text 43 = .ok (.bipush (-100), 2) := by decide +kernel
theorem dX10_text_45 : decode cX10_text 45 = .ok (.aload_n 0, 1) := by decide +kernel
theorem dX10_text_46 : decode cX10_text 46 = .ok (.getfield 197, 3) := by decide +kernel
theorem dX10_text_49 : decode cX10_text 49 = .ok (.isub, 1) := by decide +kernel
theorem dX10_text_50 : decode cX10_text 50 = .ok (.ireturn, 1) := by decide +kernel
theorem dX10_text_51 : decode cX10_text 51 = .ok (.aload_n 0, 1) := by decide +kernel
theorem dX10_text_52 : decode cX10_text 52 = .ok (.getfield 9, 3) := by decide +kernel
theorem dX10_text_55 : decode cX10_text 55 = .ok (.bipush 7, 2) := by decide +kernel
theorem dX10_text_57 : decode cX10_text 57 = .ok (.iaload, 1) := by decide +kernel
theorem dX10_text_58 : decode cX10_text 58 = .ok (.bipush 14, 2) := by decide +kernel
theorem dX10_text_60 : decode cX10_text 60 = .ok (.if_icmp .ne 6, 3) := by decide +kernel
theorem dX10_text_63 : decode cX10_text 63 = .ok (.ldc 92, 2) := by decide +kernel
theorem dX10_text_65 : decode cX10_text 65 = .ok (.ireturn, 1) := by decide +kernel
theorem dX10_text_66 : decode cX10_text 66 = .ok (.aload_n 0, 1) := by decide +kernel
theorem dX10_text_67 : decode cX10_text 67 = .ok (.getfield 9, 3) := by decide +kernel
theorem dX10_text_70 : decode cX10_text 70 = .ok (.bipush 7, 2) := by decide +kernel
theorem dX10_text_72 : decode cX10_text 72 = .ok (.iaload, 1) := by decide +kernel
theorem dX10_text_73 : decode cX10_text 73 = .ok (.istore_n 2, 1) := by decide +kernel
theorem dX10_text_74 : decode cX10_text 74 = .ok (.aload_n 0, 1) := by decide +kernel
theorem dX10_text_75 : decode cX10_text 75 = .ok (.getfield 9, 3) := by decide +kernel
theorem dX10_text_78 : decode cX10_text 78 = .ok (.bipush 80, 2) := by decide +kernel
theorem dX10_text_80 : decode cX10_text 80 = .ok (.iconst 2, 1) := by decide +kernel
theorem dX10_text_81 : decode cX10_text 81 = .ok (.iload_n 2, 1) := by decide +kernel
theorem dX10_text_82 : decode cX10_text 82 = .ok (.imul, 1) := by decide +kernel
theorem dX10_text_83 : decode cX10_text 83 = .ok (.iadd, 1) := by decide +kernel
theorem dX10_text_84 : decode cX10_text 84 = .ok (.sipush 1000, 3) := by decide +kernel
theorem dX10_text_87 : decode cX10_text 87 = .ok (.aload_n 0, 1) := by decide +kernel
theorem dX10_text_88 : decode cX10_text 88 = .ok (.getfield 215, 3) := by decide +kernel
theorem dX10_text_91 : decode cX10_text 91 = .ok (.imul, 1) := by decide +kernel
theorem dX10_text_92 : decode cX10_text 92 = .ok (.aload_n 0, 1) := by decide +kernel
theorem dX10_text_93 : decode cX10_text 93 = .ok (.getfield 227, 3) := by decide +kernel
theorem dX10_text_96 : decode cX10_text 96 = .ok (.iadd, 1) := by decide +kernel
theorem dX10_text_97 : decode cX10_text 97 = .ok (.iastore, 1) := by decide +kernel
theorem dX10_text_98 : decode cX10_text 98 = .ok (.aload_n 0, 1) := by decide +kernel
theorem dX10_text_99 : decode cX10_text 99 = .ok (.getfield 9, 3) := by decide +kernel
theorem dX10_text_102 : decode cX10_text 102 = .ok (.bipush 80, 2) := by decide +kernel
theorem dX10_text_104 : decode cX10_text 104 = .ok (.iconst 2, 1) := by decide +kernel
theorem dX10_text_105 : decode cX10_text 105 = .ok (.iload_n 2, 1) := by decide +kernel
theorem dX10_text_106 : decode cX10_text 106 = .ok (.imul, 1) := by decide +kernel
theorem dX10_text_107 : decode cX10_text 107 = .ok (.iadd, 1) := by decide +kernel
theorem dX10_text_108 : decode cX10_text 108 = .ok (.iconst 1, 1) := by decide +kernel
theorem dX10_text_109 : decode cX10_text 109 = .ok (.iadd, 1) := by decide +kernel
theorem dX10_text_110 : decode cX10_text 110 = .ok (.aload_n 0, 1) := by decide +kernel
theorem dX10_text_111 : decode cX10_text 111 = .ok (.getfield 233, 3) := by decide +kernel
theorem dX10_text_114 : decode cX10_text 114 = .ok (.iastore, 1) := by decide +kernel
theorem dX10_text_115 : decode cX10_text 115 = .ok (.iconst 0, 1) := by decide +kernel
theorem dX10_text_116 : decode cX10_text 116 = .ok (.istore_n 3, 1) := by decide +kernel
theorem dX10_text_117 : decode cX10_text 117 = .ok (.iload_n 3, 1) := by decide +kernel
theorem dX10_text_118 : decode cX10_text 118 = .ok (.aload_n 0, 1) := by decide +kernel
theorem dX10_text_119 : decode cX10_text 119 = .ok (.getfield 227, 3) := by decide +kernel
theorem dX10_text_122 : decode cX10_text 122 = .ok (.if_icmp .ge 29, 3) := by decide +kernel
theorem dX10_text_125 : decode cX10_text 125 = .ok (.aload_n 0, 1) := by decide +kernel
theorem dX10_text_126 : decode cX10_text 126 = .ok (.getfield 9, 3) := by decide +kernel
theorem dX10_text_129 : decode cX10_text 129 = .ok (.bipush 108, 2) := by decide +kernel
theorem dX10_text_131 : decode cX10_text 131 = .ok (.bipush 96, 2) := by decide +kernel
theorem dX10_text_133 : decode cX10_text 133 = .ok (.iload_n 2, 1) := by decide +kernel
theorem dX10_text_134 : decode cX10_text 134 = .ok (.imul, 1) := by decide +kernel
theorem dX10_text_135 : decode cX10_text 135 = .ok (.iadd, 1) := by decide +kernel
theorem dX10_text_136 : decode cX10_text 136 = .ok (.iload_n 3, 1) := by decide +kernel
theorem dX10_text_137 : decode cX10_text 137 = .ok (.iadd, 1) := by decide +kernel
theorem dX10_text_138 : decode cX10_text 138 = .ok (.aload_n 0, 1) := by decide +kernel
theorem dX10_text_139 : decode cX10_text 139 = .ok (.getfield 36, 3) := by decide +kernel
theorem dX10_text_142 : decode cX10_text 142 = .ok (.iload_n 3, 1) := by decide +kernel
theorem dX10_text_143 : decode cX10_text 143 = .ok (.iaload, 1) := by decide +kernel
theorem dX10_text_144 : decode cX10_text 144 = .ok (.iastore, 1) := by decide +kernel
theorem dX10_text_145 : decode cX10_text 145 = .ok (.iinc 3 1, 3) := by decide +kernel
theorem dX10_text_148 : decode cX10_text 148 = .ok (.goto (-31), 3) := by decide +kernel
theorem dX10_text_151 : decode cX10_text 151 = .ok (.aload_n 0, 1) := by decide +kernel
theorem dX10_text_152 : decode cX10_text 152 = .ok (.getfield 9, 3) := by decide +kernel
theorem dX10_text_155 : decode cX10_text 155 = .ok (.bipush 7, 2) := by decide +kernel
theorem dX10_text_157 : decode cX10_text 157 = .ok (.dup2, 1) := by decide +kernel
theorem dX10_text_158 : decode cX10_text 158 = .ok (.iaload, 1) := by decide +kernel
theorem dX10_text_159 : decode cX10_text 159 = .ok (.iconst 1, 1) := by decide +kernel
theorem dX10_text_160 : decode cX10_text 160 = .ok (.iadd, 1) := by decide +kernel
theorem dX10_text_161 : decode cX10_text 161 = .ok (.iastore, 1) := by decide +kernel
theorem dX10_text_162 : decode cX10_text 162 = .ok (.iload_n 2, 1) := by decide +kernel
theorem dX10_text_163 : decode cX10_text 163 = .ok (.ireturn, 1) := by decide +kernel
abbrev x_X10_text (E : mh_E) (d mc ms : Nat) (Post : Option Value → mh_H → Prop) : mh_X := (E, yX10_text, cX10_text, 4, (some .int), d, mc, ms, Post)
def q_X10_text_117 (X : mh_X) : mh_PR := s_il 3 (s_al 0 (s_gi 10 17 (s_if2 (fun x y => y ≤ x) (s_al 0 (s_gr 10 0 (s_push (.int (7)) (s_dup2 (s_ald 0 (s_push (.int (1)) (s_bin (fun x y => x + y) (s_ast 0 (fun x => x) (s_il 2 (s_iret X)))))))))) (s_al 0 (s_gr 10 0 (s_push (.int (108)) (s_push (.int (96)) (s_il 2 (s_bin (fun x y => x * y) (s_bin (fun x y => x + y) (s_il 3 (s_bin (fun x y => x + y) (s_al 0 (s_gr 10 16 (s_il 3 (s_ald 0 (s_ast 0 (fun x => x) (s_inc 3 (1) (mh_G X 117)))))))))))))))))))
theorem b_X10_text_117 {E : mh_E} {d mc ms : Nat} {Post : Option Value → mh_H → Prop} : mh_S (x_X10_text E d mc ms Post) 117 (q_X10_text_117 (x_X10_text E d mc ms Post)) := sn_iload_n dX10_text_117 rfl (sn_aload_n dX10_text_118 rfl (sn_geti clX10 (by decide) w_1117 dX10_text_119 (sn_icmp_ge (tgt := 151) dX10_text_122 (by decide) (sn_aload_n dX10_text_151 rfl (sn_getr clX10 (by decide) w_1100 dX10_text_152 (sn_bipush dX10_text_155 (by decide) (sn_dup2 dX10_text_157 (sn_iaload dX10_text_158 (sn_iconst dX10_text_159 (by decide) (sn_iadd dX10_text_160 (sn_iastore dX10_text_161 (sn_iload_n dX10_text_162 rfl (sn_iret rfl dX10_text_163)))))))))) (sn_aload_n dX10_text_125 rfl (sn_getr clX10 (by decide) w_1100 dX10_text_126 (sn_bipush dX10_text_129 (by decide) (sn_bipush dX10_text_131 (by decide) (sn_iload_n dX10_text_133 rfl (sn_imul dX10_text_134 (sn_iadd dX10_text_135 (sn_iload_n dX10_text_136 rfl (sn_iadd dX10_text_137 (sn_aload_n dX10_text_138 rfl (sn_getr clX10 (by decide) w_1116 dX10_text_139 (sn_iload_n dX10_text_142 rfl (sn_iaload dX10_text_143 (sn_iastore dX10_text_144 (sn_iinc dX10_text_145 (by decide) (Nat.le_of_ble_eq_true rfl) (sn_goto (tgt := 117) dX10_text_148 (by decide) (mh_S.G))))))))))))))))))))
def q_X10_text_33 (X : mh_X) : mh_PR := s_is 1 (s_al 0 (s_push (.int (0)) (s_pi 10 7 (s_il 1 (s_if1 (fun x => ¬ x = 0) (s_al 0 (s_gr 10 0 (s_push (.int (7)) (s_ald 0 (s_push (.int (14)) (s_if2 (fun x y => ¬ x = y) (s_al 0 (s_gr 10 0 (s_push (.int (7)) (s_ald 0 (s_is 2 (s_al 0 (s_gr 10 0 (s_push (.int (80)) (s_push (.int (2)) (s_il 2 (s_bin (fun x y => x * y) (s_bin (fun x y => x + y) (s_push (.int (1000)) (s_al 0 (s_gi 10 13 (s_bin (fun x y => x * y) (s_al 0 (s_gi 10 17 (s_bin (fun x y => x + y) (s_ast 0 (fun x => x) (s_al 0 (s_gr 10 0 (s_push (.int (80)) (s_push (.int (2)) (s_il 2 (s_bin (fun x y => x * y) (s_bin (fun x y => x + y) (s_push (.int (1)) (s_bin (fun x y => x + y) (s_al 0 (s_gi 10 18 (s_ast 0 (fun x => x) (s_push (.int (0)) (s_is 3 (mh_G X 117))))))))))))))))))))))))))))))))))) (s_push (.int (-1000000003)) (s_iret X)))))))) (s_push (.int (-100)) (s_al 0 (s_gi 10 9 (s_bin (fun x y => x - y) (s_iret X))))))))))
theorem b_X10_text_33 {E : mh_E} {d mc ms : Nat} {Post : Option Value → mh_H → Prop} : mh_S (x_X10_text E d mc ms Post) 33 (q_X10_text_33 (x_X10_text E d mc ms Post)) := sn_istore_n dX10_text_33 rfl (Nat.le_of_ble_eq_true rfl) (sn_aload_n dX10_text_34 rfl (sn_iconst dX10_text_35 (by decide) (sn_puti clX10 (by decide) w_1107 rfl rfl dX10_text_36 (sn_iload_n dX10_text_39 rfl (sn_if_ne (tgt := 51) dX10_text_40 (by decide) (sn_aload_n dX10_text_51 rfl (sn_getr clX10 (by decide) w_1100 dX10_text_52 (sn_bipush dX10_text_55 (by decide) (sn_iaload dX10_text_57 (sn_bipush dX10_text_58 (by decide) (sn_icmp_ne (tgt := 66) dX10_text_60 (by decide) (sn_aload_n dX10_text_66 rfl (sn_getr clX10 (by decide) w_1100 dX10_text_67 (sn_bipush dX10_text_70 (by decide) (sn_iaload dX10_text_72 (sn_istore_n dX10_text_73 rfl (Nat.le_of_ble_eq_true rfl) (sn_aload_n dX10_text_74 rfl (sn_getr clX10 (by decide) w_1100 dX10_text_75 (sn_bipush dX10_text_78 (by decide) (sn_iconst dX10_text_80 (by decide) (sn_iload_n dX10_text_81 rfl (sn_imul dX10_text_82 (sn_iadd dX10_text_83 (sn_sipush dX10_text_84 (by decide) (sn_aload_n dX10_text_87 rfl (sn_geti clX10 (by decide) w_1113 dX10_text_88 (sn_imul dX10_text_91 (sn_aload_n dX10_text_92 rfl (sn_geti clX10 (by decide) w_1117 dX10_text_93 (sn_iadd dX10_text_96 (sn_iastore dX10_text_97 (sn_aload_n dX10_text_98 rfl (sn_getr clX10 (by decide) w_1100 dX10_text_99 (sn_bipush dX10_text_102 (by decide) (sn_iconst dX10_text_104 (by decide) (sn_iload_n dX10_text_105 rfl (sn_imul dX10_text_106 (sn_iadd dX10_text_107 (sn_iconst dX10_text_108 (by decide) (sn_iadd dX10_text_109 (sn_aload_n dX10_text_110 rfl (sn_geti clX10 (by decide) w_1118 dX10_text_111 (sn_iastore dX10_text_114 (sn_iconst dX10_text_115 (by decide) (sn_istore_n dX10_text_116 rfl (Nat.le_of_ble_eq_true rfl) mh_S.G)))))))))))))))))))))))))))))))))) (sn_ldc dX10_text_63 w_1217 (sn_iret rfl dX10_text_65)))))))) (sn_bipush dX10_text_43 (by decide) (sn_aload_n dX10_text_45 rfl (sn_geti clX10 (by decide) w_1109 dX10_text_46 (sn_isub dX10_text_49 (sn_iret rfl dX10_text_50))))))))))
def q_X10_text_32 (X : mh_X) : mh_PR := s_push (.int (0)) (q_X10_text_33 X)
theorem b_X10_text_32 {E : mh_E} {d mc ms : Nat} {Post : Option Value → mh_H → Prop} : mh_S (x_X10_text E d mc ms Post) 32 (q_X10_text_32 (x_X10_text E d mc ms Post)) := sn_iconst dX10_text_32 (by decide) b_X10_text_33
def q_X10_text_0 (X : mh_X) : mh_PR := s_al 0 (s_push (.int (0)) (s_pi 10 8 (s_al 0 (s_push (.int (-1)) (s_pi 10 12 (s_al 0 (s_cv X yX10_go 10 0 (s_al 0 (s_cv X yX10_takesKey 10 0 (s_if1 (fun x => x = 0) (q_X10_text_32 X) (s_al 0 (s_cv X yX10_takesE 10 0 (s_if1 (fun x => x = 0) (q_X10_text_32 X) (s_push (.int (1)) (q_X10_text_33 X)))))))))))))))
theorem b_X10_text_0 {E : mh_E} {d mc ms : Nat} {Post : Option Value → mh_H → Prop} : mh_S (x_X10_text E d mc ms Post) 0 (q_X10_text_0 (x_X10_text E d mc ms Post)) := sn_aload_n dX10_text_0 rfl (sn_iconst dX10_text_1 (by decide) (sn_puti clX10 (by decide) w_1108 rfl rfl dX10_text_2 (sn_aload_n dX10_text_5 rfl (sn_iconst dX10_text_6 (by decide) (sn_puti clX10 (by decide) w_1112 rfl rfl dX10_text_7 (sn_aload_n dX10_text_10 rfl (sn_cv w_1450 w_1452 w_45 w_66 rfl nm_X10_go dX10_text_11 (sn_aload_n dX10_text_14 rfl (sn_cv w_1462 w_1464 w_48 w_66 rfl nm_X10_takesKey dX10_text_15 (sn_if_eq (tgt := 32) dX10_text_18 (by decide) (b_X10_text_32) (sn_aload_n dX10_text_21 rfl (sn_cv w_1466 w_1468 w_49 w_66 rfl nm_X10_takesE dX10_text_22 (sn_if_eq (tgt := 32) dX10_text_25 (by decide) (b_X10_text_32) (sn_iconst dX10_text_28 (by decide) (sn_goto (tgt := 33) dX10_text_29 (by decide) (b_X10_text_33))))))))))))))))
theorem m_X10_text {E : mh_E} {d mc ms : Nat} {args : List Value} {h : mh_H} {Post : Option Value → mh_H → Prop} (lv : List (Option Value)) (hl : lv_args 0 args = mh_al 0 lv) (hs : (lg_sl args).length ≤ 4) (hG : q_X10_text_0 (x_X10_text E d mc ms Post) lv [] h 0 0) : mh_M E d mc ms yX10_text args h Post := mh_M.of w_1449 (by decide) (by decide) hl hs (b_X10_text_0 _ _ _ _ _ hG)
theorem dX10_textTold_0 : decode cX10_textTold 0 = .ok (.iload_n 1, 1) := by decide +kernel
theorem dX10_textTold_1 : decode cX10_textTold 1 = .ok (.iconst 0, 1) := by decide +kernel
theorem dX10_textTold_2 : decode cX10_textTold 2 = .ok (.aload_n 0, 1) := by decide +kernel
theorem dX10_textTold_3 : decode cX10_textTold 3 = .ok (.getfield 9, 3) := by decide +kernel
theorem dX10_textTold_6 : decode cX10_textTold 6 = .ok (.bipush 7, 2) := by decide +kernel
theorem dX10_textTold_8 : decode cX10_textTold 8 = .ok (.iaload, 1) := by decide +kernel
theorem dX10_textTold_9 : decode cX10_textTold 9 = .ok (.iconst 1, 1) := by decide +kernel
theorem dX10_textTold_10 : decode cX10_textTold 10 = .ok (.isub, 1) := by decide +kernel
theorem dX10_textTold_11 : decode cX10_textTold 11 = .ok (.invokestatic 79, 3) := by decide +kernel
theorem dX10_textTold_14 : decode cX10_textTold 14 = .ok (.ifCond .eq 12, 3) := by decide +kernel
theorem dX10_textTold_17 : decode cX10_textTold 17 = .ok (.iload_n 2, 1) := by decide +kernel
theorem dX10_textTold_18 : decode cX10_textTold 18 = .ok (.iconst 0, 1) := by decide +kernel
theorem dX10_textTold_19 : decode cX10_textTold 19 = .ok (.iconst 1, 1) := by decide +kernel
theorem dX10_textTold_20 : decode cX10_textTold 20 = .ok (.invokestatic 79, 3) := by decide +kernel
theorem dX10_textTold_23 : decode cX10_textTold 23 = .ok (.ifCond .ne 6, 3) := by decide +kernel
theorem dX10_textTold_26 : decode cX10_textTold 26 = .ok (.ldc 91, 2) := by decide +kernel
theorem dX10_textTold_28 : decode cX10_textTold 28 = .ok (.ireturn, 1) := by decide +kernel
theorem dX10_textTold_29 : decode cX10_textTold 29 = .ok (.iload_n 2, 1) := by decide +kernel
theorem dX10_textTold_30 : decode cX10_textTold 30 = .ok (.ifCond .ne 21, 3) := by decide +kernel
theorem dX10_textTold_33 : decode cX10_textTold 33 = .ok (.aload_n 0, 1) := by decide +kernel
theorem dX10_textTold_34 : decode cX10_textTold 34 = .ok (.getfield 9, 3) := by decide +kernel
theorem dX10_textTold_37 : decode cX10_textTold 37 = .ok (.bipush 80, 2) := by decide +kernel
theorem dX10_textTold_39 : decode cX10_textTold 39 = .ok (.iconst 2, 1) := by decide +kernel
theorem dX10_textTold_40 : decode cX10_textTold 40 = .ok (.iload_n 1, 1) := by decide +kernel
theorem dX10_textTold_41 : decode cX10_textTold 41 = .ok (.imul, 1) := by decide +kernel
theorem dX10_textTold_42 : decode cX10_textTold 42 = .ok (.iadd, 1) := by decide +kernel
theorem dX10_textTold_43 : decode cX10_textTold 43 = .ok (.iaload, 1) := by decide +kernel
theorem dX10_textTold_44 : decode cX10_textTold 44 = .ok (.sipush 1000, 3) := by decide +kernel
theorem dX10_textTold_47 : decode cX10_textTold 47 = .ok (.idiv, 1) := by decide +kernel
theorem dX10_textTold_48 : decode cX10_textTold 48 = .ok (.goto 16, 3) := by decide +kernel
theorem dX10_textTold_51 : decode cX10_textTold 51 = .ok (.aload_n 0, 1) := by decide +kernel
theorem dX10_textTold_52 : decode cX10_textTold 52 = .ok (.getfield 9, 3) := by decide +kernel
theorem dX10_textTold_55 : decode cX10_textTold 55 = .ok (.bipush 80, 2) := by decide +kernel
theorem dX10_textTold_57 : decode cX10_textTold 57 = .ok (.iconst 2, 1) := by decide +kernel
theorem dX10_textTold_58 : decode cX10_textTold 58 = .ok (.iload_n 1, 1) := by decide +kernel
theorem dX10_textTold_59 : decode cX10_textTold 59 = .ok (.imul, 1) := by decide +kernel
theorem dX10_textTold_60 : decode cX10_textTold 60 = .ok (.iadd, 1) := by decide +kernel
theorem dX10_textTold_61 : decode cX10_textTold 61 = .ok (.iconst 1, 1) := by decide +kernel
theorem dX10_textTold_62 : decode cX10_textTold 62 = .ok (.iadd, 1) := by decide +kernel
theorem dX10_textTold_63 : decode cX10_textTold 63 = .ok (.iaload, 1) := by decide +kernel
theorem dX10_textTold_64 : decode cX10_textTold 64 = .ok (.ireturn, 1) := by decide +kernel
abbrev x_X10_textTold (E : mh_E) (d mc ms : Nat) (Post : Option Value → mh_H → Prop) : mh_X := (E, yX10_textTold, cX10_textTold, 3, (some .int), d, mc, ms, Post)
def q_X10_textTold_64 (X : mh_X) : mh_PR := s_iret X
theorem b_X10_textTold_64 {E : mh_E} {d mc ms : Nat} {Post : Option Value → mh_H → Prop} : mh_S (x_X10_textTold E d mc ms Post) 64 (q_X10_textTold_64 (x_X10_textTold E d mc ms Post)) := sn_iret rfl dX10_textTold_64
def q_X10_textTold_26 (X : mh_X) : mh_PR := s_push (.int (-1000000001)) (s_iret X)
theorem b_X10_textTold_26 {E : mh_E} {d mc ms : Nat} {Post : Option Value → mh_H → Prop} : mh_S (x_X10_textTold E d mc ms Post) 26 (q_X10_textTold_26 (x_X10_textTold E d mc ms Post)) := sn_ldc dX10_textTold_26 w_1216 (sn_iret rfl dX10_textTold_28)
def q_X10_textTold_0 (X : mh_X) : mh_PR := s_il 1 (s_push (.int (0)) (s_al 0 (s_gr 10 0 (s_push (.int (7)) (s_ald 0 (s_push (.int (1)) (s_bin (fun x y => x - y) (s_cs X yX10_in 3 (s_if1 (fun x => x = 0) (q_X10_textTold_26 X) (s_il 2 (s_push (.int (0)) (s_push (.int (1)) (s_cs X yX10_in 3 (s_if1 (fun x => ¬ x = 0) (s_il 2 (s_if1 (fun x => ¬ x = 0) (s_al 0 (s_gr 10 0 (s_push (.int (80)) (s_push (.int (2)) (s_il 1 (s_bin (fun x y => x * y) (s_bin (fun x y => x + y) (s_push (.int (1)) (s_bin (fun x y => x + y) (s_ald 0 (q_X10_textTold_64 X))))))))))) (s_al 0 (s_gr 10 0 (s_push (.int (80)) (s_push (.int (2)) (s_il 1 (s_bin (fun x y => x * y) (s_bin (fun x y => x + y) (s_ald 0 (s_push (.int (1000)) (s_div (fun x y => x / y) (q_X10_textTold_64 X))))))))))))) (q_X10_textTold_26 X)))))))))))))))
theorem b_X10_textTold_0 {E : mh_E} {d mc ms : Nat} {Post : Option Value → mh_H → Prop} : mh_S (x_X10_textTold E d mc ms Post) 0 (q_X10_textTold_0 (x_X10_textTold E d mc ms Post)) := sn_iload_n dX10_textTold_0 rfl (sn_iconst dX10_textTold_1 (by decide) (sn_aload_n dX10_textTold_2 rfl (sn_getr clX10 (by decide) w_1100 dX10_textTold_3 (sn_bipush dX10_textTold_6 (by decide) (sn_iaload dX10_textTold_8 (sn_iconst dX10_textTold_9 (by decide) (sn_isub dX10_textTold_10 (sn_cs w_1210 w_1211 w_66 nm_X10_in dX10_textTold_11 (sn_if_eq (tgt := 26) dX10_textTold_14 (by decide) (b_X10_textTold_26) (sn_iload_n dX10_textTold_17 rfl (sn_iconst dX10_textTold_18 (by decide) (sn_iconst dX10_textTold_19 (by decide) (sn_cs w_1210 w_1211 w_66 nm_X10_in dX10_textTold_20 (sn_if_ne (tgt := 29) dX10_textTold_23 (by decide) (sn_iload_n dX10_textTold_29 rfl (sn_if_ne (tgt := 51) dX10_textTold_30 (by decide) (sn_aload_n dX10_textTold_51 rfl (sn_getr clX10 (by decide) w_1100 dX10_textTold_52 (sn_bipush dX10_textTold_55 (by decide) (sn_iconst dX10_textTold_57 (by decide) (sn_iload_n dX10_textTold_58 rfl (sn_imul dX10_textTold_59 (sn_iadd dX10_textTold_60 (sn_iconst dX10_textTold_61 (by decide) (sn_iadd dX10_textTold_62 (sn_iaload dX10_textTold_63 b_X10_textTold_64)))))))))) (sn_aload_n dX10_textTold_33 rfl (sn_getr clX10 (by decide) w_1100 dX10_textTold_34 (sn_bipush dX10_textTold_37 (by decide) (sn_iconst dX10_textTold_39 (by decide) (sn_iload_n dX10_textTold_40 rfl (sn_imul dX10_textTold_41 (sn_iadd dX10_textTold_42 (sn_iaload dX10_textTold_43 (sn_sipush dX10_textTold_44 (by decide) (sn_idiv dX10_textTold_47 (sn_goto (tgt := 64) dX10_textTold_48 (by decide) (b_X10_textTold_64)))))))))))))) (b_X10_textTold_26)))))))))))))))
theorem m_X10_textTold {E : mh_E} {d mc ms : Nat} {args : List Value} {h : mh_H} {Post : Option Value → mh_H → Prop} (lv : List (Option Value)) (hl : lv_args 0 args = mh_al 0 lv) (hs : (lg_sl args).length ≤ 3) (hG : q_X10_textTold_0 (x_X10_textTold E d mc ms Post) lv [] h 0 0) : mh_M E d mc ms yX10_textTold args h Post := mh_M.of w_1496 (by decide) (by decide) hl hs (b_X10_textTold_0 _ _ _ _ _ hG)
theorem dX10_why_0 : decode cX10_why 0 = .ok (.iload_n 1, 1) := by decide +kernel
theorem dX10_why_1 : decode cX10_why 1 = .ok (.iconst 0, 1) := by decide +kernel
theorem dX10_why_2 : decode cX10_why 2 = .ok (.iconst 2, 1) := by decide +kernel
theorem dX10_why_3 : decode cX10_why 3 = .ok (.invokestatic 79, 3) := by decide +kernel
theorem dX10_why_6 : decode cX10_why 6 = .ok (.ifCond .ne 6, 3) := by decide +kernel
theorem dX10_why_9 : decode cX10_why 9 = .ok (.ldc 91, 2) := by decide +kernel
theorem dX10_why_11 : decode cX10_why 11 = .ok (.ireturn, 1) := by decide +kernel
theorem dX10_why_12 : decode cX10_why 12 = .ok (.aload_n 0, 1) := by decide +kernel
theorem dX10_why_13 : decode cX10_why 13 = .ok (.iload_n 1, 1) := by decide +kernel
theorem dX10_why_14 : decode cX10_why 14 = .ok (.invokevirtual 112, 3) := by decide +kernel
theorem dX10_why_17 : decode cX10_why 17 = .ok (.istore_n 2, 1) := by decide +kernel
theorem dX10_why_18 : decode cX10_why 18 = .ok (.iload_n 2, 1) := by decide +kernel
theorem dX10_why_19 : decode cX10_why 19 = .ok (.ifCond .ge 8, 3) := by decide +kernel
theorem dX10_why_22 : decode cX10_why 22 = .ok (.ldc 126, 2) := by decide +kernel
theorem dX10_why_24 : decode cX10_why 24 = .ok (.goto 4, 3) := by decide +kernel
theorem dX10_why_27 : decode cX10_why 27 = .ok (.iload_n 2, 1) := by decide +kernel
theorem dX10_why_28 : decode cX10_why 28 = .ok (.ireturn, 1) := by decide +kernel
abbrev x_X10_why (E : mh_E) (d mc ms : Nat) (Post : Option Value → mh_H → Prop) : mh_X := (E, yX10_why, cX10_why, 3, (some .int), d, mc, ms, Post)
def q_X10_why_28 (X : mh_X) : mh_PR := s_iret X
theorem b_X10_why_28 {E : mh_E} {d mc ms : Nat} {Post : Option Value → mh_H → Prop} : mh_S (x_X10_why E d mc ms Post) 28 (q_X10_why_28 (x_X10_why E d mc ms Post)) := sn_iret rfl dX10_why_28
def q_X10_why_0 (X : mh_X) : mh_PR := s_il 1 (s_push (.int (0)) (s_push (.int (2)) (s_cs X yX10_in 3 (s_if1 (fun x => ¬ x = 0) (s_al 0 (s_il 1 (s_cv X yX10_counts 10 1 (s_is 2 (s_il 2 (s_if1 (fun x => 0 ≤ x) (s_il 2 (q_X10_why_28 X)) (s_push (.int (-1000000005)) (q_X10_why_28 X)))))))) (s_push (.int (-1000000001)) (s_iret X))))))
theorem b_X10_why_0 {E : mh_E} {d mc ms : Nat} {Post : Option Value → mh_H → Prop} : mh_S (x_X10_why E d mc ms Post) 0 (q_X10_why_0 (x_X10_why E d mc ms Post)) := sn_iload_n dX10_why_0 rfl (sn_iconst dX10_why_1 (by decide) (sn_iconst dX10_why_2 (by decide) (sn_cs w_1210 w_1211 w_66 nm_X10_in dX10_why_3 (sn_if_ne (tgt := 12) dX10_why_6 (by decide) (sn_aload_n dX10_why_12 rfl (sn_iload_n dX10_why_13 rfl (sn_cv w_1259 w_1261 w_30 w_66 rfl nm_X10_counts dX10_why_14 (sn_istore_n dX10_why_17 rfl (Nat.le_of_ble_eq_true rfl) (sn_iload_n dX10_why_18 rfl (sn_if_ge (tgt := 27) dX10_why_19 (by decide) (sn_iload_n dX10_why_27 rfl b_X10_why_28) (sn_ldc dX10_why_22 w_1238 (sn_goto (tgt := 28) dX10_why_24 (by decide) (b_X10_why_28))))))))) (sn_ldc dX10_why_9 w_1216 (sn_iret rfl dX10_why_11))))))
theorem m_X10_why {E : mh_E} {d mc ms : Nat} {args : List Value} {h : mh_H} {Post : Option Value → mh_H → Prop} (lv : List (Option Value)) (hl : lv_args 0 args = mh_al 0 lv) (hs : (lg_sl args).length ≤ 3) (hG : q_X10_why_0 (x_X10_why E d mc ms Post) lv [] h 0 0) : mh_M E d mc ms yX10_why args h Post := mh_M.of w_1500 (by decide) (by decide) hl hs (b_X10_why_0 _ _ _ _ _ hG)
theorem dX10_two_0 : decode cX10_two 0 = .ok (.iload_n 0, 1) := by decide +kernel
theorem dX10_two_1 : decode cX10_two 1 = .ok (.tableswitch 120 (-8) (-1) #[116, 112, 108, 97, 86, 75, 61, 47], 47) := by decide +kernel
theorem dX10_two_48 : decode cX10_two 48 = .ok (.iload_n 1, 1) := by decide +kernel
theorem dX10_two_49 : decode cX10_two 49 = .ok (.ifCond .ne 7, 3) := by decide +kernel
theorem dX10_two_52 : decode cX10_two 52 = .ok (.iload_n 2, 1) := by decide +kernel
theorem dX10_two_53 : decode cX10_two 53 = .ok (.ifCond .eq 7, 3) := by decide +kernel
theorem dX10_two_56 : decode cX10_two 56 = .ok (.iconst 1, 1) := by decide +kernel
theorem dX10_two_57 : decode cX10_two 57 = .ok (.goto 4, 3) := by decide +kernel
theorem dX10_two_60 : decode cX10_two 60 = .ok (.iconst 0, 1) := by decide +kernel
theorem dX10_two_61 : decode cX10_two 61 = .ok (.ireturn, 1) := by decide +kernel
theorem dX10_two_62 : decode cX10_two 62 = .ok (.iload_n 1, 1) := by decide +kernel
theorem dX10_two_63 : decode cX10_two 63 = .ok (.ifCond .eq 11, 3) := by decide +kernel
theorem dX10_two_66 : decode cX10_two 66 = .ok (.iload_n 2, 1) := by decide +kernel
theorem dX10_two_67 : decode cX10_two 67 = .ok (.ifCond .eq 7, 3) := by decide +kernel
theorem dX10_two_70 : decode cX10_two 70 = .ok (.iconst 1, 1) := by decide +kernel
theorem dX10_two_71 : decode cX10_two 71 = .ok (.goto 4, 3) := by decide +kernel
theorem dX10_two_74 : decode cX10_two 74 = .ok (.iconst 0, 1) := by decide +kernel
theorem dX10_two_75 : decode cX10_two 75 = .ok (.ireturn, 1) := by decide +kernel
theorem dX10_two_76 : decode cX10_two 76 = .ok (.iload_n 1, 1) := by decide +kernel
theorem dX10_two_77 : decode cX10_two 77 = .ok (.iload_n 2, 1) := by decide +kernel
theorem dX10_two_78 : decode cX10_two 78 = .ok (.if_icmp .ge 7, 3) := by decide +kernel
theorem dX10_two_81 : decode cX10_two 81 = .ok (.iconst 1, 1) := by decide +kernel
theorem dX10_two_82 : decode cX10_two 82 = .ok (.goto 4, 3) := by decide +kernel
theorem dX10_two_85 : decode cX10_two 85 = .ok (.iconst 0, 1) := by decide +kernel
theorem dX10_two_86 : decode cX10_two 86 = .ok (.ireturn, 1) := by decide +kernel
theorem dX10_two_87 : decode cX10_two 87 = .ok (.iload_n 1, 1) := by decide +kernel
theorem dX10_two_88 : decode cX10_two 88 = .ok (.iload_n 2, 1) := by decide +kernel
theorem dX10_two_89 : decode cX10_two 89 = .ok (.if_icmp .ne 7, 3) := by decide +kernel
theorem dX10_two_92 : decode cX10_two 92 = .ok (.iconst 1, 1) := by decide +kernel
theorem dX10_two_93 : decode cX10_two 93 = .ok (.goto 4, 3) := by decide +kernel
theorem dX10_two_96 : decode cX10_two 96 = .ok (.iconst 0, 1) := by decide +kernel
theorem dX10_two_97 : decode cX10_two 97 = .ok (.ireturn, 1) := by decide +kernel
theorem dX10_two_98 : decode cX10_two 98 = .ok (.iload_n 1, 1) := by decide +kernel
theorem dX10_two_99 : decode cX10_two 99 = .ok (.iload_n 2, 1) := by decide +kernel
theorem dX10_two_100 : decode cX10_two 100 = .ok (.if_icmp .le 7, 3) := by decide +kernel
theorem dX10_two_103 : decode cX10_two 103 = .ok (.iconst 1, 1) := by decide +kernel
theorem dX10_two_104 : decode cX10_two 104 = .ok (.goto 4, 3) := by decide +kernel
theorem dX10_two_107 : decode cX10_two 107 = .ok (.iconst 0, 1) := by decide +kernel
theorem dX10_two_108 : decode cX10_two 108 = .ok (.ireturn, 1) := by decide +kernel
theorem dX10_two_109 : decode cX10_two 109 = .ok (.iload_n 1, 1) := by decide +kernel
theorem dX10_two_110 : decode cX10_two 110 = .ok (.iload_n 2, 1) := by decide +kernel
theorem dX10_two_111 : decode cX10_two 111 = .ok (.iadd, 1) := by decide +kernel
theorem dX10_two_112 : decode cX10_two 112 = .ok (.ireturn, 1) := by decide +kernel
theorem dX10_two_113 : decode cX10_two 113 = .ok (.iload_n 1, 1) := by decide +kernel
theorem dX10_two_114 : decode cX10_two 114 = .ok (.iload_n 2, 1) := by decide +kernel
theorem dX10_two_115 : decode cX10_two 115 = .ok (.isub, 1) := by decide +kernel
theorem dX10_two_116 : decode cX10_two 116 = .ok (.ireturn, 1) := by decide +kernel
theorem dX10_two_117 : decode cX10_two 117 = .ok (.iload_n 1, 1) := by decide +kernel
theorem dX10_two_118 : decode cX10_two 118 = .ok (.iload_n 2, 1) := by decide +kernel
theorem dX10_two_119 : decode cX10_two 119 = .ok (.imul, 1) := by decide +kernel
theorem dX10_two_120 : decode cX10_two 120 = .ok (.ireturn, 1) := by decide +kernel
theorem dX10_two_121 : decode cX10_two 121 = .ok (.iload_n 2, 1) := by decide +kernel
theorem dX10_two_122 : decode cX10_two 122 = .ok (.ifCond .ne 7, 3) := by decide +kernel
theorem dX10_two_125 : decode cX10_two 125 = .ok (.iconst 0, 1) := by decide +kernel
theorem dX10_two_126 : decode cX10_two 126 = .ok (.goto 6, 3) := by decide +kernel
theorem dX10_two_129 : decode cX10_two 129 = .ok (.iload_n 1, 1) := by decide +kernel
theorem dX10_two_130 : decode cX10_two 130 = .ok (.iload_n 2, 1) := by decide +kernel
theorem dX10_two_131 : decode cX10_two 131 = .ok (.idiv, 1) := by decide +kernel
theorem dX10_two_132 : decode cX10_two 132 = .ok (.ireturn, 1) := by decide +kernel
abbrev x_X10_two (E : mh_E) (d mc ms : Nat) (Post : Option Value → mh_H → Prop) : mh_X := (E, yX10_two, cX10_two, 3, (some .int), d, mc, ms, Post)
def q_X10_two_132 (X : mh_X) : mh_PR := s_iret X
theorem b_X10_two_132 {E : mh_E} {d mc ms : Nat} {Post : Option Value → mh_H → Prop} : mh_S (x_X10_two E d mc ms Post) 132 (q_X10_two_132 (x_X10_two E d mc ms Post)) := sn_iret rfl dX10_two_132
def q_X10_two_108 (X : mh_X) : mh_PR := s_iret X
theorem b_X10_two_108 {E : mh_E} {d mc ms : Nat} {Post : Option Value → mh_H → Prop} : mh_S (x_X10_two E d mc ms Post) 108 (q_X10_two_108 (x_X10_two E d mc ms Post)) := sn_iret rfl dX10_two_108
def q_X10_two_97 (X : mh_X) : mh_PR := s_iret X
theorem b_X10_two_97 {E : mh_E} {d mc ms : Nat} {Post : Option Value → mh_H → Prop} : mh_S (x_X10_two E d mc ms Post) 97 (q_X10_two_97 (x_X10_two E d mc ms Post)) := sn_iret rfl dX10_two_97
def q_X10_two_86 (X : mh_X) : mh_PR := s_iret X
theorem b_X10_two_86 {E : mh_E} {d mc ms : Nat} {Post : Option Value → mh_H → Prop} : mh_S (x_X10_two E d mc ms Post) 86 (q_X10_two_86 (x_X10_two E d mc ms Post)) := sn_iret rfl dX10_two_86
def q_X10_two_75 (X : mh_X) : mh_PR := s_iret X
theorem b_X10_two_75 {E : mh_E} {d mc ms : Nat} {Post : Option Value → mh_H → Prop} : mh_S (x_X10_two E d mc ms Post) 75 (q_X10_two_75 (x_X10_two E d mc ms Post)) := sn_iret rfl dX10_two_75
def q_X10_two_74 (X : mh_X) : mh_PR := s_push (.int (0)) (q_X10_two_75 X)
theorem b_X10_two_74 {E : mh_E} {d mc ms : Nat} {Post : Option Value → mh_H → Prop} : mh_S (x_X10_two E d mc ms Post) 74 (q_X10_two_74 (x_X10_two E d mc ms Post)) := sn_iconst dX10_two_74 (by decide) b_X10_two_75
def q_X10_two_61 (X : mh_X) : mh_PR := s_iret X
theorem b_X10_two_61 {E : mh_E} {d mc ms : Nat} {Post : Option Value → mh_H → Prop} : mh_S (x_X10_two E d mc ms Post) 61 (q_X10_two_61 (x_X10_two E d mc ms Post)) := sn_iret rfl dX10_two_61
def q_X10_two_56 (X : mh_X) : mh_PR := s_push (.int (1)) (q_X10_two_61 X)
theorem b_X10_two_56 {E : mh_E} {d mc ms : Nat} {Post : Option Value → mh_H → Prop} : mh_S (x_X10_two E d mc ms Post) 56 (q_X10_two_56 (x_X10_two E d mc ms Post)) := sn_iconst dX10_two_56 (by decide) (sn_goto (tgt := 61) dX10_two_57 (by decide) (b_X10_two_61))
def q_X10_two_0 (X : mh_X) : mh_PR := s_il 0 (s_sw [((-8 : Int32), s_il 1 (s_il 2 (s_bin (fun x y => x * y) (s_iret X)))), ((-7 : Int32), s_il 1 (s_il 2 (s_bin (fun x y => x - y) (s_iret X)))), ((-6 : Int32), s_il 1 (s_il 2 (s_bin (fun x y => x + y) (s_iret X)))), ((-5 : Int32), s_il 1 (s_il 2 (s_if2 (fun x y => x ≤ y) (s_push (.int (0)) (q_X10_two_108 X)) (s_push (.int (1)) (q_X10_two_108 X))))), ((-4 : Int32), s_il 1 (s_il 2 (s_if2 (fun x y => ¬ x = y) (s_push (.int (0)) (q_X10_two_97 X)) (s_push (.int (1)) (q_X10_two_97 X))))), ((-3 : Int32), s_il 1 (s_il 2 (s_if2 (fun x y => y ≤ x) (s_push (.int (0)) (q_X10_two_86 X)) (s_push (.int (1)) (q_X10_two_86 X))))), ((-2 : Int32), s_il 1 (s_if1 (fun x => x = 0) (q_X10_two_74 X) (s_il 2 (s_if1 (fun x => x = 0) (q_X10_two_74 X) (s_push (.int (1)) (q_X10_two_75 X)))))), ((-1 : Int32), s_il 1 (s_if1 (fun x => ¬ x = 0) (q_X10_two_56 X) (s_il 2 (s_if1 (fun x => x = 0) (s_push (.int (0)) (q_X10_two_61 X)) (q_X10_two_56 X)))))] (s_il 2 (s_if1 (fun x => ¬ x = 0) (s_il 1 (s_il 2 (s_div (fun x y => x / y) (q_X10_two_132 X)))) (s_push (.int (0)) (q_X10_two_132 X)))))
theorem b_X10_two_0 {E : mh_E} {d mc ms : Nat} {Post : Option Value → mh_H → Prop} : mh_S (x_X10_two E d mc ms Post) 0 (q_X10_two_0 (x_X10_two E d mc ms Post)) := sn_iload_n dX10_two_0 rfl (sn_table (tgt := 121) (ts := [(-8, 116, 117), (-7, 112, 113), (-6, 108, 109), (-5, 97, 98), (-4, 86, 87), (-3, 75, 76), (-2, 61, 62), (-1, 47, 48)]) dX10_two_1 (by decide +kernel) (by decide +kernel) (sw_cons (sn_iload_n dX10_two_117 rfl (sn_iload_n dX10_two_118 rfl (sn_imul dX10_two_119 (sn_iret rfl dX10_two_120)))) (sw_cons (sn_iload_n dX10_two_113 rfl (sn_iload_n dX10_two_114 rfl (sn_isub dX10_two_115 (sn_iret rfl dX10_two_116)))) (sw_cons (sn_iload_n dX10_two_109 rfl (sn_iload_n dX10_two_110 rfl (sn_iadd dX10_two_111 (sn_iret rfl dX10_two_112)))) (sw_cons (sn_iload_n dX10_two_98 rfl (sn_iload_n dX10_two_99 rfl (sn_icmp_le (tgt := 107) dX10_two_100 (by decide) (sn_iconst dX10_two_107 (by decide) b_X10_two_108) (sn_iconst dX10_two_103 (by decide) (sn_goto (tgt := 108) dX10_two_104 (by decide) (b_X10_two_108)))))) (sw_cons (sn_iload_n dX10_two_87 rfl (sn_iload_n dX10_two_88 rfl (sn_icmp_ne (tgt := 96) dX10_two_89 (by decide) (sn_iconst dX10_two_96 (by decide) b_X10_two_97) (sn_iconst dX10_two_92 (by decide) (sn_goto (tgt := 97) dX10_two_93 (by decide) (b_X10_two_97)))))) (sw_cons (sn_iload_n dX10_two_76 rfl (sn_iload_n dX10_two_77 rfl (sn_icmp_ge (tgt := 85) dX10_two_78 (by decide) (sn_iconst dX10_two_85 (by decide) b_X10_two_86) (sn_iconst dX10_two_81 (by decide) (sn_goto (tgt := 86) dX10_two_82 (by decide) (b_X10_two_86)))))) (sw_cons (sn_iload_n dX10_two_62 rfl (sn_if_eq (tgt := 74) dX10_two_63 (by decide) (b_X10_two_74) (sn_iload_n dX10_two_66 rfl (sn_if_eq (tgt := 74) dX10_two_67 (by decide) (b_X10_two_74) (sn_iconst dX10_two_70 (by decide) (sn_goto (tgt := 75) dX10_two_71 (by decide) (b_X10_two_75))))))) (sw_cons (sn_iload_n dX10_two_48 rfl (sn_if_ne (tgt := 56) dX10_two_49 (by decide) (b_X10_two_56) (sn_iload_n dX10_two_52 rfl (sn_if_eq (tgt := 60) dX10_two_53 (by decide) (sn_iconst dX10_two_60 (by decide) b_X10_two_61) (b_X10_two_56))))) sw_nil)))))))) (by decide) (sn_iload_n dX10_two_121 rfl (sn_if_ne (tgt := 129) dX10_two_122 (by decide) (sn_iload_n dX10_two_129 rfl (sn_iload_n dX10_two_130 rfl (sn_idiv dX10_two_131 b_X10_two_132))) (sn_iconst dX10_two_125 (by decide) (sn_goto (tgt := 132) dX10_two_126 (by decide) (b_X10_two_132))))))
theorem m_X10_two {E : mh_E} {d mc ms : Nat} {args : List Value} {h : mh_H} {Post : Option Value → mh_H → Prop} (lv : List (Option Value)) (hl : lv_args 0 args = mh_al 0 lv) (hs : (lg_sl args).length ≤ 3) (hG : q_X10_two_0 (x_X10_two E d mc ms Post) lv [] h 0 0) : mh_M E d mc ms yX10_two args h Post := mh_M.of w_1273 (by decide) (by decide) hl hs (b_X10_two_0 _ _ _ _ _ hG)
theorem dX10_worksOut_0 : decode cX10_worksOut 0 = .ok (.iconst 0, 1) := by decide +kernel
theorem dX10_worksOut_1 : decode cX10_worksOut 1 = .ok (.istore_n 2, 1) := by decide +kernel
theorem dX10_worksOut_2 : decode cX10_worksOut 2 = .ok (.aload_n 0, 1) := by decide +kernel
theorem dX10_worksOut_3 : decode cX10_worksOut 3 = .ok (.getfield 9, 3) := by decide +kernel
theorem dX10_worksOut_6 : decode cX10_worksOut 6 = .ok (.bipush 80, 2) := by decide +kernel
theorem dX10_worksOut_8 : decode cX10_worksOut 8 = .ok (.iconst 2, 1) := by decide +kernel
theorem dX10_worksOut_9 : decode cX10_worksOut 9 = .ok (.iload_n 1, 1) := by decide +kernel
theorem dX10_worksOut_10 : decode cX10_worksOut 10 = .ok (.imul, 1) := by decide +kernel
theorem dX10_worksOut_11 : decode cX10_worksOut 11 = .ok (.iadd, 1) := by decide +kernel
theorem dX10_worksOut_12 : decode cX10_worksOut 12 = .ok (.iaload, 1) := by decide +kernel
theorem dX10_worksOut_13 : decode cX10_worksOut 13 = .ok (.sipush 1000, 3) := by decide +kernel
theorem dX10_worksOut_16 : decode cX10_worksOut 16 = .ok (.irem, 1) := by decide +kernel
theorem dX10_worksOut_17 : decode cX10_worksOut 17 = .ok (.istore_n 3, 1) := by decide +kernel
theorem dX10_worksOut_18 : decode cX10_worksOut 18 = .ok (.iconst 0, 1) := by decide +kernel
theorem dX10_worksOut_19 : decode cX10_worksOut 19 = .ok (.istore 4, 2) := by decide +kernel
theorem dX10_worksOut_21 : decode cX10_worksOut 21 = .ok (.iload 4, 2) := by decide +kernel
theorem dX10_worksOut_23 : decode cX10_worksOut 23 = .ok (.iload_n 3, 1) := by decide +kernel
theorem dX10_worksOut_24 : decode cX10_worksOut 24 = .ok (.if_icmp .ge 131, 3) := by decide +kernel
theorem dX10_worksOut_27 : decode cX10_worksOut 27 = .ok (.aload_n 0, 1) := by decide +kernel
theorem dX10_worksOut_28 : decode cX10_worksOut 28 = .ok (.getfield 9, 3) := by decide +kernel
theorem dX10_worksOut_31 : decode cX10_worksOut 31 = .ok (.bipush 108, 2) := by decide +kernel
theorem dX10_worksOut_33 : decode cX10_worksOut 33 = .ok (.bipush 96, 2) := by decide +kernel
theorem dX10_worksOut_35 : decode cX10_worksOut 35 = .ok (.iload_n 1, 1) := by decide +kernel
theorem dX10_worksOut_36 : decode cX10_worksOut 36 = .ok (.imul, 1) := by decide +kernel
theorem dX10_worksOut_37 : decode cX10_worksOut 37 = .ok (.iadd, 1) := by decide +kernel
theorem dX10_worksOut_38 : decode cX10_worksOut 38 = .ok (.iload 4, 2) := by decide +kernel
theorem dX10_worksOut_40 : decode cX10_worksOut 40 = .ok (.iadd, 1) := by decide +kernel
theorem dX10_worksOut_41 : decode cX10_worksOut 41 = .ok (.iaload, 1) := by decide +kernel
theorem dX10_worksOut_42 : decode cX10_worksOut 42 = .ok (.istore 5, 2) := by decide +kernel
theorem dX10_worksOut_44 : decode cX10_worksOut 44 = .ok (.iload 5, 2) := by decide +kernel
theorem dX10_worksOut_46 : decode cX10_worksOut 46 = .ok (.ifCond .lt 39, 3) := by decide +kernel
theorem dX10_worksOut_49 : decode cX10_worksOut 49 = .ok (.aload_n 0, 1) := by decide +kernel
theorem dX10_worksOut_50 : decode cX10_worksOut 50 = .ok (.getfield 46, 3) := by decide +kernel
theorem dX10_worksOut_53 : decode cX10_worksOut 53 = .ok (.iload_n 2, 1) := by decide +kernel
theorem dX10_worksOut_54 : decode cX10_worksOut 54 = .ok (.iload 5, 2) := by decide +kernel
theorem dX10_worksOut_56 : decode cX10_worksOut 56 = .ok (.sipush 10000, 3) := by decide +kernel
theorem dX10_worksOut_59 : decode cX10_worksOut 59 = .ok (.if_icmp .ge 8, 3) := by decide +kernel
theorem dX10_worksOut_62 : decode cX10_worksOut 62 = .ok (.iload 5, 2) := by decide +kernel
theorem dX10_worksOut_64 : decode cX10_worksOut 64 = .ok (.goto 14, 3) := by decide +kernel
theorem dX10_worksOut_67 : decode cX10_worksOut 67 = .ok (.aload_n 0, 1) := by decide +kernel
theorem dX10_worksOut_68 : decode cX10_worksOut 68 = .ok (.getfield 49, 3) := by decide +kernel
theorem dX10_worksOut_71 : decode cX10_worksOut 71 = .ok (.iload 5, 2) := by decide +kernel
theorem dX10_worksOut_73 : decode cX10_worksOut 73 = .ok (.sipush 10000, 3) := by decide +kernel
theorem dX10_worksOut_76 : decode cX10_worksOut 76 = .ok (.isub, 1) := by decide +kernel
theorem dX10_worksOut_77 : decode cX10_worksOut 77 = .ok (.iaload, 1) := by decide +kernel
theorem dX10_worksOut_78 : decode cX10_worksOut 78 = .ok (.iastore, 1) := by decide +kernel
theorem dX10_worksOut_79 : decode cX10_worksOut 79 = .ok (.iinc 2 1, 3) := by decide +kernel
theorem dX10_worksOut_82 : decode cX10_worksOut 82 = .ok (.goto 67, 3) := by decide +kernel
theorem dX10_worksOut_85 : decode cX10_worksOut 85 = .ok (.iload 5, 2) := by decide +kernel
theorem dX10_worksOut_87 : decode cX10_worksOut 87 = .ok (.bipush (-10), 2) := by decide +kernel
theorem dX10_worksOut_89 : decode cX10_worksOut 89 = .ok (.if_icmp .ne 30, 3) := by decide +kernel
theorem dX10_worksOut_92 : decode cX10_worksOut 92 = .ok (.aload_n 0, 1) := by decide +kernel
theorem dX10_worksOut_93 : decode cX10_worksOut 93 = .ok (.getfield 46, 3) := by decide +kernel
theorem dX10_worksOut_96 : decode cX10_worksOut 96 = .ok (.iload_n 2, 1) := by decide +kernel
theorem dX10_worksOut_97 : decode cX10_worksOut 97 = .ok (.iconst 1, 1) := by decide +kernel
theorem dX10_worksOut_98 : decode cX10_worksOut 98 = .ok (.isub, 1) := by decide +kernel
theorem dX10_worksOut_99 : decode cX10_worksOut 99 = .ok (.aload_n 0, 1) := by decide +kernel
theorem dX10_worksOut_100 : decode cX10_worksOut 100 = .ok (.getfield 46, 3) := by decide +kernel
theorem dX10_worksOut_103 : decode cX10_worksOut 103 = .ok (.iload_n 2, 1) := by decide +kernel
theorem dX10_worksOut_104 : decode cX10_worksOut 104 = .ok (.iconst 1, 1) := by decide +kernel
theorem dX10_worksOut_105 : decode cX10_worksOut 105 = .ok (.isub, 1) := by decide +kernel
theorem dX10_worksOut_106 : decode cX10_worksOut 106 = .ok (.iaload, 1) := by decide +kernel
theorem dX10_worksOut_107 : decode cX10_worksOut 107 = .ok (.ifCond .ne 7, 3) := by decide +kernel
theorem dX10_worksOut_110 : decode cX10_worksOut 110 = .ok (.iconst 1, 1) := by decide +kernel
theorem dX10_worksOut_111 : decode cX10_worksOut 111 = .ok (.goto 4, 3) := by decide +kernel
theorem dX10_worksOut_114 : decode cX10_worksOut 114 = .ok (.iconst 0, 1) := by decide +kernel
theorem dX10_worksOut_115 : decode cX10_worksOut 115 = .ok (.iastore, 1) := by decide +kernel
theorem dX10_worksOut_116 : decode cX10_worksOut 116 = .ok (.goto 33, 3) := by decide +kernel
theorem dX10_worksOut_119 : decode cX10_worksOut 119 = .ok (.iinc 2 (-1), 3) := by decide +kernel
theorem dX10_worksOut_122 : decode cX10_worksOut 122 = .ok (.aload_n 0, 1) := by decide +kernel
theorem dX10_worksOut_123 : decode cX10_worksOut 123 = .ok (.getfield 46, 3) := by decide +kernel
theorem dX10_worksOut_126 : decode cX10_worksOut 126 = .ok (.iload_n 2, 1) := by decide +kernel
theorem dX10_worksOut_127 : decode cX10_worksOut 127 = .ok (.iconst 1, 1) := by decide +kernel
theorem dX10_worksOut_128 : decode cX10_worksOut 128 = .ok (.isub, 1) := by decide +kernel
theorem dX10_worksOut_129 : decode cX10_worksOut 129 = .ok (.iload 5, 2) := by decide +kernel
theorem dX10_worksOut_131 : decode cX10_worksOut 131 = .ok (.aload_n 0, 1) := by decide +kernel
theorem dX10_worksOut_132 : decode cX10_worksOut 132 = .ok (.getfield 46, 3) := by decide +kernel
theorem dX10_worksOut_135 : decode cX10_worksOut 135 = .ok (.iload_n 2, 1) := by decide +kernel
theorem dX10_worksOut_136 : decode cX10_worksOut 136 = .ok (.iconst 1, 1) := by decide +kernel
theorem dX10_worksOut_137 : decode cX10_worksOut 137 = .ok (.isub, 1) := by decide +kernel
theorem dX10_worksOut_138 : decode cX10_worksOut 138 = .ok (.iaload, 1) := by decide +kernel
theorem dX10_worksOut_139 : decode cX10_worksOut 139 = .ok (.aload_n 0, 1) := by decide +kernel
theorem dX10_worksOut_140 : decode cX10_worksOut 140 = .ok (.getfield 46, 3) := by decide +kernel
theorem dX10_worksOut_143 : decode cX10_worksOut 143 = .ok (.iload_n 2, 1) := by decide +kernel
theorem dX10_worksOut_144 : decode cX10_worksOut 144 = .ok (.iaload, 1) := by decide +kernel
theorem dX10_worksOut_145 : decode cX10_worksOut 145 = .ok (.invokestatic 255, 3) := by decide +kernel
theorem dX10_worksOut_148 : decode cX10_worksOut 148 = .ok (.iastore, 1) := by decide +kernel
theorem dX10_worksOut_149 : decode cX10_worksOut 149 = .ok (.iinc 4 1, 3) := by decide +kernel
theorem dX10_worksOut_152 : decode cX10_worksOut 152 = .ok (.goto (-131), 3) := by decide +kernel
theorem dX10_worksOut_155 : decode cX10_worksOut 155 = .ok (.aload_n 0, 1) := by decide +kernel
theorem dX10_worksOut_156 : decode cX10_worksOut 156 = .ok (.getfield 46, 3) := by decide +kernel
theorem dX10_worksOut_159 : decode cX10_worksOut 159 = .ok (.iconst 0, 1) := by decide +kernel
theorem dX10_worksOut_160 : decode cX10_worksOut 160 = .ok (.iaload, 1) := by decide +kernel
theorem dX10_worksOut_161 : decode cX10_worksOut 161 = .ok (.ireturn, 1) := by decide +kernel
abbrev x_X10_worksOut (E : mh_E) (d mc ms : Nat) (Post : Option Value → mh_H → Prop) : mh_X := (E, yX10_worksOut, cX10_worksOut, 6, (some .int), d, mc, ms, Post)
def q_X10_worksOut_149 (X : mh_X) : mh_PR := s_inc 4 (1) (mh_G X 21)
theorem b_X10_worksOut_149 {E : mh_E} {d mc ms : Nat} {Post : Option Value → mh_H → Prop} : mh_S (x_X10_worksOut E d mc ms Post) 149 (q_X10_worksOut_149 (x_X10_worksOut E d mc ms Post)) := sn_iinc dX10_worksOut_149 (by decide) (Nat.le_of_ble_eq_true rfl) (sn_goto (tgt := 21) dX10_worksOut_152 (by decide) (mh_S.G))
def q_X10_worksOut_115 (X : mh_X) : mh_PR := s_ast 0 (fun x => x) (q_X10_worksOut_149 X)
theorem b_X10_worksOut_115 {E : mh_E} {d mc ms : Nat} {Post : Option Value → mh_H → Prop} : mh_S (x_X10_worksOut E d mc ms Post) 115 (q_X10_worksOut_115 (x_X10_worksOut E d mc ms Post)) := sn_iastore dX10_worksOut_115 (sn_goto (tgt := 149) dX10_worksOut_116 (by decide) (b_X10_worksOut_149))
def q_X10_worksOut_78 (X : mh_X) : mh_PR := s_ast 0 (fun x => x) (s_inc 2 (1) (q_X10_worksOut_149 X))
theorem b_X10_worksOut_78 {E : mh_E} {d mc ms : Nat} {Post : Option Value → mh_H → Prop} : mh_S (x_X10_worksOut E d mc ms Post) 78 (q_X10_worksOut_78 (x_X10_worksOut E d mc ms Post)) := sn_iastore dX10_worksOut_78 (sn_iinc dX10_worksOut_79 (by decide) (Nat.le_of_ble_eq_true rfl) (sn_goto (tgt := 149) dX10_worksOut_82 (by decide) (b_X10_worksOut_149)))
def q_X10_worksOut_21 (X : mh_X) : mh_PR := s_il 4 (s_il 3 (s_if2 (fun x y => y ≤ x) (s_al 0 (s_gr 10 22 (s_push (.int (0)) (s_ald 0 (s_iret X))))) (s_al 0 (s_gr 10 0 (s_push (.int (108)) (s_push (.int (96)) (s_il 1 (s_bin (fun x y => x * y) (s_bin (fun x y => x + y) (s_il 4 (s_bin (fun x y => x + y) (s_ald 0 (s_is 5 (s_il 5 (s_if1 (fun x => x < 0) (s_il 5 (s_push (.int (-10)) (s_if2 (fun x y => ¬ x = y) (s_inc 2 (-1) (s_al 0 (s_gr 10 22 (s_il 2 (s_push (.int (1)) (s_bin (fun x y => x - y) (s_il 5 (s_al 0 (s_gr 10 22 (s_il 2 (s_push (.int (1)) (s_bin (fun x y => x - y) (s_ald 0 (s_al 0 (s_gr 10 22 (s_il 2 (s_ald 0 (s_cs X yX10_two 3 (s_ast 0 (fun x => x) (q_X10_worksOut_149 X)))))))))))))))))))) (s_al 0 (s_gr 10 22 (s_il 2 (s_push (.int (1)) (s_bin (fun x y => x - y) (s_al 0 (s_gr 10 22 (s_il 2 (s_push (.int (1)) (s_bin (fun x y => x - y) (s_ald 0 (s_if1 (fun x => ¬ x = 0) (s_push (.int (0)) (q_X10_worksOut_115 X)) (s_push (.int (1)) (q_X10_worksOut_115 X))))))))))))))))) (s_al 0 (s_gr 10 22 (s_il 2 (s_il 5 (s_push (.int (10000)) (s_if2 (fun x y => y ≤ x) (s_al 0 (s_gr 10 23 (s_il 5 (s_push (.int (10000)) (s_bin (fun x y => x - y) (s_ald 0 (q_X10_worksOut_78 X))))))) (s_il 5 (q_X10_worksOut_78 X)))))))))))))))))))))))
theorem b_X10_worksOut_21 {E : mh_E} {d mc ms : Nat} {Post : Option Value → mh_H → Prop} : mh_S (x_X10_worksOut E d mc ms Post) 21 (q_X10_worksOut_21 (x_X10_worksOut E d mc ms Post)) := sn_iload dX10_worksOut_21 (sn_iload_n dX10_worksOut_23 rfl (sn_icmp_ge (tgt := 155) dX10_worksOut_24 (by decide) (sn_aload_n dX10_worksOut_155 rfl (sn_getr clX10 (by decide) w_1122 dX10_worksOut_156 (sn_iconst dX10_worksOut_159 (by decide) (sn_iaload dX10_worksOut_160 (sn_iret rfl dX10_worksOut_161))))) (sn_aload_n dX10_worksOut_27 rfl (sn_getr clX10 (by decide) w_1100 dX10_worksOut_28 (sn_bipush dX10_worksOut_31 (by decide) (sn_bipush dX10_worksOut_33 (by decide) (sn_iload_n dX10_worksOut_35 rfl (sn_imul dX10_worksOut_36 (sn_iadd dX10_worksOut_37 (sn_iload dX10_worksOut_38 (sn_iadd dX10_worksOut_40 (sn_iaload dX10_worksOut_41 (sn_istore dX10_worksOut_42 (Nat.le_of_ble_eq_true rfl) (sn_iload dX10_worksOut_44 (sn_if_lt (tgt := 85) dX10_worksOut_46 (by decide) (sn_iload dX10_worksOut_85 (sn_bipush dX10_worksOut_87 (by decide) (sn_icmp_ne (tgt := 119) dX10_worksOut_89 (by decide) (sn_iinc dX10_worksOut_119 (by decide) (Nat.le_of_ble_eq_true rfl) (sn_aload_n dX10_worksOut_122 rfl (sn_getr clX10 (by decide) w_1122 dX10_worksOut_123 (sn_iload_n dX10_worksOut_126 rfl (sn_iconst dX10_worksOut_127 (by decide) (sn_isub dX10_worksOut_128 (sn_iload dX10_worksOut_129 (sn_aload_n dX10_worksOut_131 rfl (sn_getr clX10 (by decide) w_1122 dX10_worksOut_132 (sn_iload_n dX10_worksOut_135 rfl (sn_iconst dX10_worksOut_136 (by decide) (sn_isub dX10_worksOut_137 (sn_iaload dX10_worksOut_138 (sn_aload_n dX10_worksOut_139 rfl (sn_getr clX10 (by decide) w_1122 dX10_worksOut_140 (sn_iload_n dX10_worksOut_143 rfl (sn_iaload dX10_worksOut_144 (sn_cs w_1271 w_1272 w_66 nm_X10_two dX10_worksOut_145 (sn_iastore dX10_worksOut_148 b_X10_worksOut_149))))))))))))))))))) (sn_aload_n dX10_worksOut_92 rfl (sn_getr clX10 (by decide) w_1122 dX10_worksOut_93 (sn_iload_n dX10_worksOut_96 rfl (sn_iconst dX10_worksOut_97 (by decide) (sn_isub dX10_worksOut_98 (sn_aload_n dX10_worksOut_99 rfl (sn_getr clX10 (by decide) w_1122 dX10_worksOut_100 (sn_iload_n dX10_worksOut_103 rfl (sn_iconst dX10_worksOut_104 (by decide) (sn_isub dX10_worksOut_105 (sn_iaload dX10_worksOut_106 (sn_if_ne (tgt := 114) dX10_worksOut_107 (by decide) (sn_iconst dX10_worksOut_114 (by decide) b_X10_worksOut_115) (sn_iconst dX10_worksOut_110 (by decide) (sn_goto (tgt := 115) dX10_worksOut_111 (by decide) (b_X10_worksOut_115)))))))))))))))))) (sn_aload_n dX10_worksOut_49 rfl (sn_getr clX10 (by decide) w_1122 dX10_worksOut_50 (sn_iload_n dX10_worksOut_53 rfl (sn_iload dX10_worksOut_54 (sn_sipush dX10_worksOut_56 (by decide) (sn_icmp_ge (tgt := 67) dX10_worksOut_59 (by decide) (sn_aload_n dX10_worksOut_67 rfl (sn_getr clX10 (by decide) w_1123 dX10_worksOut_68 (sn_iload dX10_worksOut_71 (sn_sipush dX10_worksOut_73 (by decide) (sn_isub dX10_worksOut_76 (sn_iaload dX10_worksOut_77 b_X10_worksOut_78)))))) (sn_iload dX10_worksOut_62 (sn_goto (tgt := 78) dX10_worksOut_64 (by decide) (b_X10_worksOut_78))))))))))))))))))))))))
def q_X10_worksOut_0 (X : mh_X) : mh_PR := s_push (.int (0)) (s_is 2 (s_al 0 (s_gr 10 0 (s_push (.int (80)) (s_push (.int (2)) (s_il 1 (s_bin (fun x y => x * y) (s_bin (fun x y => x + y) (s_ald 0 (s_push (.int (1000)) (s_div mh_rem (s_is 3 (s_push (.int (0)) (s_is 4 (mh_G X 21)))))))))))))))
theorem b_X10_worksOut_0 {E : mh_E} {d mc ms : Nat} {Post : Option Value → mh_H → Prop} : mh_S (x_X10_worksOut E d mc ms Post) 0 (q_X10_worksOut_0 (x_X10_worksOut E d mc ms Post)) := sn_iconst dX10_worksOut_0 (by decide) (sn_istore_n dX10_worksOut_1 rfl (Nat.le_of_ble_eq_true rfl) (sn_aload_n dX10_worksOut_2 rfl (sn_getr clX10 (by decide) w_1100 dX10_worksOut_3 (sn_bipush dX10_worksOut_6 (by decide) (sn_iconst dX10_worksOut_8 (by decide) (sn_iload_n dX10_worksOut_9 rfl (sn_imul dX10_worksOut_10 (sn_iadd dX10_worksOut_11 (sn_iaload dX10_worksOut_12 (sn_sipush dX10_worksOut_13 (by decide) (sn_irem dX10_worksOut_16 (sn_istore_n dX10_worksOut_17 rfl (Nat.le_of_ble_eq_true rfl) (sn_iconst dX10_worksOut_18 (by decide) (sn_istore dX10_worksOut_19 (Nat.le_of_ble_eq_true rfl) mh_S.G))))))))))))))
theorem m_X10_worksOut {E : mh_E} {d mc ms : Nat} {args : List Value} {h : mh_H} {Post : Option Value → mh_H → Prop} (lv : List (Option Value)) (hl : lv_args 0 args = mh_al 0 lv) (hs : (lg_sl args).length ≤ 6) (hG : q_X10_worksOut_0 (x_X10_worksOut E d mc ms Post) lv [] h 0 0) : mh_M E d mc ms yX10_worksOut args h Post := mh_M.of w_1270 (by decide) (by decide) hl hs (b_X10_worksOut_0 _ _ _ _ _ hG)
theorem dX10_sheet_0 : decode cX10_sheet 0 = .ok (.iload_n 1, 1) := by decide +kernel
theorem dX10_sheet_1 : decode cX10_sheet 1 = .ok (.invokestatic 186, 3) := by decide +kernel
theorem dX10_sheet_4 : decode cX10_sheet 4 = .ok (.ifCond .eq 22, 3) := by decide +kernel
theorem dX10_sheet_7 : decode cX10_sheet 7 = .ok (.iload_n 2, 1) := by decide +kernel
theorem dX10_sheet_8 : decode cX10_sheet 8 = .ok (.iconst (-1), 1) := by decide +kernel
theorem dX10_sheet_9 : decode cX10_sheet 9 = .ok (.iconst 1, 1) := by decide +kernel
theorem dX10_sheet_10 : decode cX10_sheet 10 = .ok (.invokestatic 79, 3) := by decide +kernel
theorem dX10_sheet_13 : decode cX10_sheet 13 = .ok (.ifCond .eq 13, 3) := by decide +kernel
theorem dX10_sheet_16 : decode cX10_sheet 16 = .ok (.iload_n 2, 1) := by decide +kernel
theorem dX10_sheet_17 : decode cX10_sheet 17 = .ok (.ifCond .lt 12, 3) := by decide +kernel
theorem dX10_sheet_20 : decode cX10_sheet 20 = .ok (.iload_n 3, 1) := by decide +kernel
theorem dX10_sheet_21 : decode cX10_sheet 21 = .ok (.bipush 24, 2) := by decide +kernel
theorem dX10_sheet_23 : decode cX10_sheet 23 = .ok (.if_icmp .le 6, 3) := by decide +kernel
theorem dX10_sheet_26 : decode cX10_sheet 26 = .ok (.ldc 91, 2) := by decide +kernel
theorem dX10_sheet_28 : decode cX10_sheet 28 = .ok (.ireturn, 1) := by decide +kernel
theorem dX10_sheet_29 : decode cX10_sheet 29 = .ok (.iload_n 2, 1) := by decide +kernel
theorem dX10_sheet_30 : decode cX10_sheet 30 = .ok (.ifCond .lt 11, 3) := by decide +kernel
theorem dX10_sheet_33 : decode cX10_sheet 33 = .ok (.iload_n 3, 1) := by decide +kernel
theorem dX10_sheet_34 : decode cX10_sheet 34 = .ok (.ifCond .ge 7, 3) := by decide +kernel
theorem dX10_sheet_37 : decode cX10_sheet 37 = .ok (.ldc_w 258, 3) := by decide +kernel
theorem dX10_sheet_40 : decode cX10_sheet 40 = .ok (.ireturn, 1) := by decide +kernel
theorem dX10_sheet_41 : decode cX10_sheet 41 = .ok (.aload_n 0, 1) := by decide +kernel
theorem dX10_sheet_42 : decode cX10_sheet 42 = .ok (.getfield 52, 3) := by decide +kernel
theorem dX10_sheet_45 : decode cX10_sheet 45 = .ok (.iload_n 1, 1) := by decide +kernel
theorem dX10_sheet_46 : decode cX10_sheet 46 = .ok (.iload_n 2, 1) := by decide +kernel
theorem dX10_sheet_47 : decode cX10_sheet 47 = .ok (.iastore, 1) := by decide +kernel
theorem dX10_sheet_48 : decode cX10_sheet 48 = .ok (.aload_n 0, 1) := by decide +kernel
theorem dX10_sheet_49 : decode cX10_sheet 49 = .ok (.getfield 55, 3) := by decide +kernel
theorem dX10_sheet_52 : decode cX10_sheet 52 = .ok (.iload_n 1, 1) := by decide +kernel
theorem dX10_sheet_53 : decode cX10_sheet 53 = .ok (.iload_n 2, 1) := by decide +kernel
theorem dX10_sheet_54 : decode cX10_sheet 54 = .ok (.ifCond .ge 7, 3) := by decide +kernel
theorem dX10_sheet_57 : decode cX10_sheet 57 = .ok (.iconst 0, 1) := by decide +kernel
theorem dX10_sheet_58 : decode cX10_sheet 58 = .ok (.goto 4, 3) := by decide +kernel
theorem dX10_sheet_61 : decode cX10_sheet 61 = .ok (.iload_n 3, 1) := by decide +kernel
theorem dX10_sheet_62 : decode cX10_sheet 62 = .ok (.iastore, 1) := by decide +kernel
theorem dX10_sheet_63 : decode cX10_sheet 63 = .ok (.iconst 0, 1) := by decide +kernel
theorem dX10_sheet_64 : decode cX10_sheet 64 = .ok (.istore 4, 2) := by decide +kernel
theorem dX10_sheet_66 : decode cX10_sheet 66 = .ok (.iload 4, 2) := by decide +kernel
theorem dX10_sheet_68 : decode cX10_sheet 68 = .ok (.bipush 24, 2) := by decide +kernel
theorem dX10_sheet_70 : decode cX10_sheet 70 = .ok (.if_icmp .ge 22, 3) := by decide +kernel
theorem dX10_sheet_73 : decode cX10_sheet 73 = .ok (.aload_n 0, 1) := by decide +kernel
theorem dX10_sheet_74 : decode cX10_sheet 74 = .ok (.getfield 58, 3) := by decide +kernel
theorem dX10_sheet_77 : decode cX10_sheet 77 = .ok (.bipush 24, 2) := by decide +kernel
theorem dX10_sheet_79 : decode cX10_sheet 79 = .ok (.iload_n 1, 1) := by decide +kernel
theorem dX10_sheet_80 : decode cX10_sheet 80 = .ok (.imul, 1) := by decide +kernel
theorem dX10_sheet_81 : decode cX10_sheet 81 = .ok (.iload 4, 2) := by decide +kernel
theorem dX10_sheet_83 : decode cX10_sheet 83 = .ok (.iadd, 1) := by decide +kernel
theorem dX10_sheet_84 : decode cX10_sheet 84 = .ok (.iconst 0, 1) := by decide +kernel
theorem dX10_sheet_85 : decode cX10_sheet 85 = .ok (.iastore, 1) := by decide +kernel
theorem dX10_sheet_86 : decode cX10_sheet 86 = .ok (.iinc 4 1, 3) := by decide +kernel
theorem dX10_sheet_89 : decode cX10_sheet 89 = .ok (.goto (-23), 3) := by decide +kernel
theorem dX10_sheet_92 : decode cX10_sheet 92 = .ok (.aload_n 0, 1) := by decide +kernel
theorem dX10_sheet_93 : decode cX10_sheet 93 = .ok (.getfield 55, 3) := by decide +kernel
theorem dX10_sheet_96 : decode cX10_sheet 96 = .ok (.iload_n 1, 1) := by decide +kernel
theorem dX10_sheet_97 : decode cX10_sheet 97 = .ok (.iaload, 1) := by decide +kernel
theorem dX10_sheet_98 : decode cX10_sheet 98 = .ok (.ireturn, 1) := by decide +kernel
abbrev x_X10_sheet (E : mh_E) (d mc ms : Nat) (Post : Option Value → mh_H → Prop) : mh_X := (E, yX10_sheet, cX10_sheet, 5, (some .int), d, mc, ms, Post)
def q_X10_sheet_66 (X : mh_X) : mh_PR := s_il 4 (s_push (.int (24)) (s_if2 (fun x y => y ≤ x) (s_al 0 (s_gr 10 25 (s_il 1 (s_ald 0 (s_iret X))))) (s_al 0 (s_gr 10 26 (s_push (.int (24)) (s_il 1 (s_bin (fun x y => x * y) (s_il 4 (s_bin (fun x y => x + y) (s_push (.int (0)) (s_ast 0 (fun x => x) (s_inc 4 (1) (mh_G X 66)))))))))))))
theorem b_X10_sheet_66 {E : mh_E} {d mc ms : Nat} {Post : Option Value → mh_H → Prop} : mh_S (x_X10_sheet E d mc ms Post) 66 (q_X10_sheet_66 (x_X10_sheet E d mc ms Post)) := sn_iload dX10_sheet_66 (sn_bipush dX10_sheet_68 (by decide) (sn_icmp_ge (tgt := 92) dX10_sheet_70 (by decide) (sn_aload_n dX10_sheet_92 rfl (sn_getr clX10 (by decide) w_1125 dX10_sheet_93 (sn_iload_n dX10_sheet_96 rfl (sn_iaload dX10_sheet_97 (sn_iret rfl dX10_sheet_98))))) (sn_aload_n dX10_sheet_73 rfl (sn_getr clX10 (by decide) w_1126 dX10_sheet_74 (sn_bipush dX10_sheet_77 (by decide) (sn_iload_n dX10_sheet_79 rfl (sn_imul dX10_sheet_80 (sn_iload dX10_sheet_81 (sn_iadd dX10_sheet_83 (sn_iconst dX10_sheet_84 (by decide) (sn_iastore dX10_sheet_85 (sn_iinc dX10_sheet_86 (by decide) (Nat.le_of_ble_eq_true rfl) (sn_goto (tgt := 66) dX10_sheet_89 (by decide) (mh_S.G))))))))))))))
def q_X10_sheet_62 (X : mh_X) : mh_PR := s_ast 0 (fun x => x) (s_push (.int (0)) (s_is 4 (mh_G X 66)))
theorem b_X10_sheet_62 {E : mh_E} {d mc ms : Nat} {Post : Option Value → mh_H → Prop} : mh_S (x_X10_sheet E d mc ms Post) 62 (q_X10_sheet_62 (x_X10_sheet E d mc ms Post)) := sn_iastore dX10_sheet_62 (sn_iconst dX10_sheet_63 (by decide) (sn_istore dX10_sheet_64 (Nat.le_of_ble_eq_true rfl) mh_S.G))
def q_X10_sheet_41 (X : mh_X) : mh_PR := s_al 0 (s_gr 10 24 (s_il 1 (s_il 2 (s_ast 0 (fun x => x) (s_al 0 (s_gr 10 25 (s_il 1 (s_il 2 (s_if1 (fun x => 0 ≤ x) (s_il 3 (q_X10_sheet_62 X)) (s_push (.int (0)) (q_X10_sheet_62 X)))))))))))
theorem b_X10_sheet_41 {E : mh_E} {d mc ms : Nat} {Post : Option Value → mh_H → Prop} : mh_S (x_X10_sheet E d mc ms Post) 41 (q_X10_sheet_41 (x_X10_sheet E d mc ms Post)) := sn_aload_n dX10_sheet_41 rfl (sn_getr clX10 (by decide) w_1124 dX10_sheet_42 (sn_iload_n dX10_sheet_45 rfl (sn_iload_n dX10_sheet_46 rfl (sn_iastore dX10_sheet_47 (sn_aload_n dX10_sheet_48 rfl (sn_getr clX10 (by decide) w_1125 dX10_sheet_49 (sn_iload_n dX10_sheet_52 rfl (sn_iload_n dX10_sheet_53 rfl (sn_if_ge (tgt := 61) dX10_sheet_54 (by decide) (sn_iload_n dX10_sheet_61 rfl b_X10_sheet_62) (sn_iconst dX10_sheet_57 (by decide) (sn_goto (tgt := 62) dX10_sheet_58 (by decide) (b_X10_sheet_62))))))))))))
def q_X10_sheet_29 (X : mh_X) : mh_PR := s_il 2 (s_if1 (fun x => x < 0) (q_X10_sheet_41 X) (s_il 3 (s_if1 (fun x => 0 ≤ x) (q_X10_sheet_41 X) (s_push (.int (-1000000014)) (s_iret X)))))
theorem b_X10_sheet_29 {E : mh_E} {d mc ms : Nat} {Post : Option Value → mh_H → Prop} : mh_S (x_X10_sheet E d mc ms Post) 29 (q_X10_sheet_29 (x_X10_sheet E d mc ms Post)) := sn_iload_n dX10_sheet_29 rfl (sn_if_lt (tgt := 41) dX10_sheet_30 (by decide) (b_X10_sheet_41) (sn_iload_n dX10_sheet_33 rfl (sn_if_ge (tgt := 41) dX10_sheet_34 (by decide) (b_X10_sheet_41) (sn_ldcw dX10_sheet_37 w_1505 (sn_iret rfl dX10_sheet_40)))))
def q_X10_sheet_26 (X : mh_X) : mh_PR := s_push (.int (-1000000001)) (s_iret X)
theorem b_X10_sheet_26 {E : mh_E} {d mc ms : Nat} {Post : Option Value → mh_H → Prop} : mh_S (x_X10_sheet E d mc ms Post) 26 (q_X10_sheet_26 (x_X10_sheet E d mc ms Post)) := sn_ldc dX10_sheet_26 w_1216 (sn_iret rfl dX10_sheet_28)
def q_X10_sheet_0 (X : mh_X) : mh_PR := s_il 1 (s_cs X yX10_isSheet 1 (s_if1 (fun x => x = 0) (q_X10_sheet_26 X) (s_il 2 (s_push (.int (-1)) (s_push (.int (1)) (s_cs X yX10_in 3 (s_if1 (fun x => x = 0) (q_X10_sheet_26 X) (s_il 2 (s_if1 (fun x => x < 0) (q_X10_sheet_29 X) (s_il 3 (s_push (.int (24)) (s_if2 (fun x y => x ≤ y) (q_X10_sheet_29 X) (q_X10_sheet_26 X)))))))))))))
theorem b_X10_sheet_0 {E : mh_E} {d mc ms : Nat} {Post : Option Value → mh_H → Prop} : mh_S (x_X10_sheet E d mc ms Post) 0 (q_X10_sheet_0 (x_X10_sheet E d mc ms Post)) := sn_iload_n dX10_sheet_0 rfl (sn_cs w_1426 w_1427 w_66 nm_X10_isSheet dX10_sheet_1 (sn_if_eq (tgt := 26) dX10_sheet_4 (by decide) (b_X10_sheet_26) (sn_iload_n dX10_sheet_7 rfl (sn_iconst dX10_sheet_8 (by decide) (sn_iconst dX10_sheet_9 (by decide) (sn_cs w_1210 w_1211 w_66 nm_X10_in dX10_sheet_10 (sn_if_eq (tgt := 26) dX10_sheet_13 (by decide) (b_X10_sheet_26) (sn_iload_n dX10_sheet_16 rfl (sn_if_lt (tgt := 29) dX10_sheet_17 (by decide) (b_X10_sheet_29) (sn_iload_n dX10_sheet_20 rfl (sn_bipush dX10_sheet_21 (by decide) (sn_icmp_le (tgt := 29) dX10_sheet_23 (by decide) (b_X10_sheet_29) (b_X10_sheet_26)))))))))))))
theorem m_X10_sheet {E : mh_E} {d mc ms : Nat} {args : List Value} {h : mh_H} {Post : Option Value → mh_H → Prop} (lv : List (Option Value)) (hl : lv_args 0 args = mh_al 0 lv) (hs : (lg_sl args).length ≤ 5) (hG : q_X10_sheet_0 (x_X10_sheet E d mc ms Post) lv [] h 0 0) : mh_M E d mc ms yX10_sheet args h Post := mh_M.of w_1504 (by decide) (by decide) hl hs (b_X10_sheet_0 _ _ _ _ _ hG)
theorem dX10_tell_0 : decode cX10_tell 0 = .ok (.aload_n 0, 1) := by decide +kernel
theorem dX10_tell_1 : decode cX10_tell 1 = .ok (.getfield 264, 3) := by decide +kernel
theorem dX10_tell_4 : decode cX10_tell 4 = .ok (.bipush 60, 2) := by decide +kernel
theorem dX10_tell_6 : decode cX10_tell 6 = .ok (.if_icmp .ne 6, 3) := by decide +kernel
theorem dX10_tell_9 : decode cX10_tell 9 = .ok (.ldc 92, 2) := by decide +kernel
theorem dX10_tell_11 : decode cX10_tell 11 = .ok (.ireturn, 1) := by decide +kernel
theorem dX10_tell_12 : decode cX10_tell 12 = .ok (.aload_n 0, 1) := by decide +kernel
theorem dX10_tell_13 : decode cX10_tell 13 = .ok (.getfield 76, 3) := by decide +kernel
theorem dX10_tell_16 : decode cX10_tell 16 = .ok (.aload_n 0, 1) := by decide +kernel
theorem dX10_tell_17 : decode cX10_tell 17 = .ok (.getfield 264, 3) := by decide +kernel
theorem dX10_tell_20 : decode cX10_tell 20 = .ok (.iload_n 1, 1) := by decide +kernel
theorem dX10_tell_21 : decode cX10_tell 21 = .ok (.iastore, 1) := by decide +kernel
theorem dX10_tell_22 : decode cX10_tell 22 = .ok (.aload_n 0, 1) := by decide +kernel
theorem dX10_tell_23 : decode cX10_tell 23 = .ok (.dup, 1) := by decide +kernel
theorem dX10_tell_24 : decode cX10_tell 24 = .ok (.getfield 264, 3) := by decide +kernel
theorem dX10_tell_27 : decode cX10_tell 27 = .ok (.iconst 1, 1) := by decide +kernel
theorem dX10_tell_28 : decode cX10_tell 28 = .ok (.iadd, 1) := by decide +kernel
theorem dX10_tell_29 : decode cX10_tell 29 = .ok (.putfield 264, 3) := by decide +kernel
theorem dX10_tell_32 : decode cX10_tell 32 = .ok (.aload_n 0, 1) := by decide +kernel
theorem dX10_tell_33 : decode cX10_tell 33 = .ok (.getfield 264, 3) := by decide +kernel
theorem dX10_tell_36 : decode cX10_tell 36 = .ok (.ireturn, 1) := by decide +kernel
abbrev x_X10_tell (E : mh_E) (d mc ms : Nat) (Post : Option Value → mh_H → Prop) : mh_X := (E, yX10_tell, cX10_tell, 2, (some .int), d, mc, ms, Post)
def q_X10_tell_0 (X : mh_X) : mh_PR := s_al 0 (s_gi 10 33 (s_push (.int (60)) (s_if2 (fun x y => ¬ x = y) (s_al 0 (s_gr 10 32 (s_al 0 (s_gi 10 33 (s_il 1 (s_ast 0 (fun x => x) (s_al 0 (s_dup (s_gi 10 33 (s_push (.int (1)) (s_bin (fun x y => x + y) (s_pi 10 33 (s_al 0 (s_gi 10 33 (s_iret X))))))))))))))) (s_push (.int (-1000000003)) (s_iret X)))))
theorem b_X10_tell_0 {E : mh_E} {d mc ms : Nat} {Post : Option Value → mh_H → Prop} : mh_S (x_X10_tell E d mc ms Post) 0 (q_X10_tell_0 (x_X10_tell E d mc ms Post)) := sn_aload_n dX10_tell_0 rfl (sn_geti clX10 (by decide) w_1133 dX10_tell_1 (sn_bipush dX10_tell_4 (by decide) (sn_icmp_ne (tgt := 12) dX10_tell_6 (by decide) (sn_aload_n dX10_tell_12 rfl (sn_getr clX10 (by decide) w_1132 dX10_tell_13 (sn_aload_n dX10_tell_16 rfl (sn_geti clX10 (by decide) w_1133 dX10_tell_17 (sn_iload_n dX10_tell_20 rfl (sn_iastore dX10_tell_21 (sn_aload_n dX10_tell_22 rfl (sn_dup dX10_tell_23 (sn_geti clX10 (by decide) w_1133 dX10_tell_24 (sn_iconst dX10_tell_27 (by decide) (sn_iadd dX10_tell_28 (sn_puti clX10 (by decide) w_1133 rfl rfl dX10_tell_29 (sn_aload_n dX10_tell_32 rfl (sn_geti clX10 (by decide) w_1133 dX10_tell_33 (sn_iret rfl dX10_tell_36))))))))))))))) (sn_ldc dX10_tell_9 w_1217 (sn_iret rfl dX10_tell_11)))))
theorem m_X10_tell {E : mh_E} {d mc ms : Nat} {args : List Value} {h : mh_H} {Post : Option Value → mh_H → Prop} (lv : List (Option Value)) (hl : lv_args 0 args = mh_al 0 lv) (hs : (lg_sl args).length ≤ 2) (hG : q_X10_tell_0 (x_X10_tell E d mc ms Post) lv [] h 0 0) : mh_M E d mc ms yX10_tell args h Post := mh_M.of w_1546 (by decide) (by decide) hl hs (b_X10_tell_0 _ _ _ _ _ hG)
