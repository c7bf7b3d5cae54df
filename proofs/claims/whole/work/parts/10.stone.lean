theorem dX6_init_0 : decode cX6_init 0 = .ok (.aload_n 0, 1) := by decide +kernel
theorem dX6_init_1 : decode cX6_init 1 = .ok (.invokespecial 3, 3) := by decide +kernel
theorem dX6_init_4 : decode cX6_init 4 = .ok (.aload_n 0, 1) := by decide +kernel
theorem dX6_init_5 : decode cX6_init 5 = .ok (.iconst 0, 1) := by decide +kernel
theorem dX6_init_6 : decode cX6_init 6 = .ok (.putfield 9, 3) := by decide +kernel
theorem dX6_init_9 : decode cX6_init 9 = .ok (.aload_n 0, 1) := by decide +kernel
theorem dX6_init_10 : decode cX6_init 10 = .ok (.iconst 0, 1) := by decide +kernel
theorem dX6_init_11 : decode cX6_init 11 = .ok (.putfield 15, 3) := by decide +kernel
theorem dX6_init_14 : decode cX6_init 14 = .ok (.aload_n 0, 1) := by decide +kernel
theorem dX6_init_15 : decode cX6_init 15 = .ok (.iconst 0, 1) := by decide +kernel
theorem dX6_init_16 : decode cX6_init 16 = .ok (.putfield 18, 3) := by decide +kernel
theorem dX6_init_19 : decode cX6_init 19 = .ok (.aload_n 0, 1) := by decide +kernel
theorem dX6_init_20 : decode cX6_init 20 = .ok (.iconst 0, 1) := by decide +kernel
theorem dX6_init_21 : decode cX6_init 21 = .ok (.putfield 21, 3) := by decide +kernel
theorem dX6_init_24 : decode cX6_init 24 = .ok (.aload_n 0, 1) := by decide +kernel
theorem dX6_init_25 : decode cX6_init 25 = .ok (.iconst 0, 1) := by decide +kernel
theorem dX6_init_26 : decode cX6_init 26 = .ok (.putfield 24, 3) := by decide +kernel
theorem dX6_init_29 : decode cX6_init 29 = .ok (.aload_n 0, 1) := by decide +kernel
theorem dX6_init_30 : decode cX6_init 30 = .ok (.ldc 27, 2) := by decide +kernel
theorem dX6_init_32 : decode cX6_init 32 = .ok (.putfield 28, 3) := by decide +kernel
theorem dX6_init_35 : decode cX6_init 35 = .ok (.return_, 1) := by decide +kernel
abbrev x_X6_init (E : mh_E) (d mc ms : Nat) (Post : Option Value → mh_H → Prop) : mh_X := (E, yX6_init, cX6_init, 1, none, d, mc, ms, Post)
def q_X6_init_0 (X : mh_X) : mh_PR := s_al 0 (s_oi X (s_al 0 (s_push (.int (0)) (s_pi 6 0 (s_al 0 (s_push (.int (0)) (s_pi 6 1 (s_al 0 (s_push (.int (0)) (s_pi 6 2 (s_al 0 (s_push (.int (0)) (s_pi 6 3 (s_al 0 (s_push (.int (0)) (s_pi 6 4 (s_al 0 (s_push (.int (-1000000005)) (s_pi 6 5 (s_vret X))))))))))))))))))))
theorem b_X6_init_0 {E : mh_E} {d mc ms : Nat} {Post : Option Value → mh_H → Prop} : mh_S (x_X6_init E d mc ms Post) 0 (q_X6_init_0 (x_X6_init E d mc ms Post)) := sn_aload_n dX6_init_0 rfl (sn_oi w_139 w_82 w_oi dX6_init_1 (sn_aload_n dX6_init_4 rfl (sn_iconst dX6_init_5 (by decide) (sn_puti clX6 (by decide) w_141 rfl rfl dX6_init_6 (sn_aload_n dX6_init_9 rfl (sn_iconst dX6_init_10 (by decide) (sn_puti clX6 (by decide) w_144 rfl rfl dX6_init_11 (sn_aload_n dX6_init_14 rfl (sn_iconst dX6_init_15 (by decide) (sn_puti clX6 (by decide) w_147 rfl rfl dX6_init_16 (sn_aload_n dX6_init_19 rfl (sn_iconst dX6_init_20 (by decide) (sn_puti clX6 (by decide) w_151 rfl rfl dX6_init_21 (sn_aload_n dX6_init_24 rfl (sn_iconst dX6_init_25 (by decide) (sn_puti clX6 (by decide) w_155 rfl rfl dX6_init_26 (sn_aload_n dX6_init_29 rfl (sn_ldc dX6_init_30 w_140 (sn_puti clX6 (by decide) w_158 rfl rfl dX6_init_32 (sn_vret rfl dX6_init_35))))))))))))))))))))
theorem m_X6_init {E : mh_E} {d mc ms : Nat} {args : List Value} {h : mh_H} {Post : Option Value → mh_H → Prop} (lv : List (Option Value)) (hl : lv_args 0 args = mh_al 0 lv) (hs : (lg_sl args).length ≤ 1) (hG : q_X6_init_0 (x_X6_init E d mc ms Post) lv [] h 0 0) : mh_M E d mc ms yX6_init args h Post := mh_M.of w_138 (by decide) (by decide) hl hs (b_X6_init_0 _ _ _ _ _ hG)
theorem dX6_become_0 : decode cX6_become 0 = .ok (.aload_n 0, 1) := by decide +kernel
theorem dX6_become_1 : decode cX6_become 1 = .ok (.aload_n 1, 1) := by decide +kernel
theorem dX6_become_2 : decode cX6_become 2 = .ok (.getfield 9, 3) := by decide +kernel
theorem dX6_become_5 : decode cX6_become 5 = .ok (.putfield 9, 3) := by decide +kernel
theorem dX6_become_8 : decode cX6_become 8 = .ok (.aload_n 0, 1) := by decide +kernel
theorem dX6_become_9 : decode cX6_become 9 = .ok (.aload_n 1, 1) := by decide +kernel
theorem dX6_become_10 : decode cX6_become 10 = .ok (.getfield 15, 3) := by decide +kernel
theorem dX6_become_13 : decode cX6_become 13 = .ok (.putfield 15, 3) := by decide +kernel
theorem dX6_become_16 : decode cX6_become 16 = .ok (.aload_n 0, 1) := by decide +kernel
theorem dX6_become_17 : decode cX6_become 17 = .ok (.aload_n 1, 1) := by decide +kernel
theorem dX6_become_18 : decode cX6_become 18 = .ok (.getfield 18, 3) := by decide +kernel
theorem dX6_become_21 : decode cX6_become 21 = .ok (.putfield 18, 3) := by decide +kernel
theorem dX6_become_24 : decode cX6_become 24 = .ok (.aload_n 0, 1) := by decide +kernel
theorem dX6_become_25 : decode cX6_become 25 = .ok (.aload_n 1, 1) := by decide +kernel
theorem dX6_become_26 : decode cX6_become 26 = .ok (.getfield 21, 3) := by decide +kernel
theorem dX6_become_29 : decode cX6_become 29 = .ok (.putfield 21, 3) := by decide +kernel
theorem dX6_become_32 : decode cX6_become 32 = .ok (.aload_n 0, 1) := by decide +kernel
theorem dX6_become_33 : decode cX6_become 33 = .ok (.aload_n 1, 1) := by decide +kernel
theorem dX6_become_34 : decode cX6_become 34 = .ok (.getfield 24, 3) := by decide +kernel
theorem dX6_become_37 : decode cX6_become 37 = .ok (.putfield 24, 3) := by decide +kernel
theorem dX6_become_40 : decode cX6_become 40 = .ok (.aload_n 0, 1) := by decide +kernel
theorem dX6_become_41 : decode cX6_become 41 = .ok (.aload_n 1, 1) := by decide +kernel
theorem dX6_become_42 : decode cX6_become 42 = .ok (.getfield 28, 3) := by decide +kernel
theorem dX6_become_45 : decode cX6_become 45 = .ok (.putfield 28, 3) := by decide +kernel
theorem dX6_become_48 : decode cX6_become 48 = .ok (.return_, 1) := by decide +kernel
abbrev x_X6_become (E : mh_E) (d mc ms : Nat) (Post : Option Value → mh_H → Prop) : mh_X := (E, yX6_become, cX6_become, 2, none, d, mc, ms, Post)
def q_X6_become_0 (X : mh_X) : mh_PR := s_al 0 (s_al 1 (s_gi 6 0 (s_pi 6 0 (s_al 0 (s_al 1 (s_gi 6 1 (s_pi 6 1 (s_al 0 (s_al 1 (s_gi 6 2 (s_pi 6 2 (s_al 0 (s_al 1 (s_gi 6 3 (s_pi 6 3 (s_al 0 (s_al 1 (s_gi 6 4 (s_pi 6 4 (s_al 0 (s_al 1 (s_gi 6 5 (s_pi 6 5 (s_vret X))))))))))))))))))))))))
theorem b_X6_become_0 {E : mh_E} {d mc ms : Nat} {Post : Option Value → mh_H → Prop} : mh_S (x_X6_become E d mc ms Post) 0 (q_X6_become_0 (x_X6_become E d mc ms Post)) := sn_aload_n dX6_become_0 rfl (sn_aload_n dX6_become_1 rfl (sn_geti clX6 (by decide) w_141 dX6_become_2 (sn_puti clX6 (by decide) w_141 rfl rfl dX6_become_5 (sn_aload_n dX6_become_8 rfl (sn_aload_n dX6_become_9 rfl (sn_geti clX6 (by decide) w_144 dX6_become_10 (sn_puti clX6 (by decide) w_144 rfl rfl dX6_become_13 (sn_aload_n dX6_become_16 rfl (sn_aload_n dX6_become_17 rfl (sn_geti clX6 (by decide) w_147 dX6_become_18 (sn_puti clX6 (by decide) w_147 rfl rfl dX6_become_21 (sn_aload_n dX6_become_24 rfl (sn_aload_n dX6_become_25 rfl (sn_geti clX6 (by decide) w_151 dX6_become_26 (sn_puti clX6 (by decide) w_151 rfl rfl dX6_become_29 (sn_aload_n dX6_become_32 rfl (sn_aload_n dX6_become_33 rfl (sn_geti clX6 (by decide) w_155 dX6_become_34 (sn_puti clX6 (by decide) w_155 rfl rfl dX6_become_37 (sn_aload_n dX6_become_40 rfl (sn_aload_n dX6_become_41 rfl (sn_geti clX6 (by decide) w_158 dX6_become_42 (sn_puti clX6 (by decide) w_158 rfl rfl dX6_become_45 (sn_vret rfl dX6_become_48))))))))))))))))))))))))
theorem m_X6_become {E : mh_E} {d mc ms : Nat} {args : List Value} {h : mh_H} {Post : Option Value → mh_H → Prop} (lv : List (Option Value)) (hl : lv_args 0 args = mh_al 0 lv) (hs : (lg_sl args).length ≤ 2) (hG : q_X6_become_0 (x_X6_become E d mc ms Post) lv [] h 0 0) : mh_M E d mc ms yX6_become args h Post := mh_M.of w_670 (by decide) (by decide) hl hs (b_X6_become_0 _ _ _ _ _ hG)
theorem dX6_changeWho_0 : decode cX6_changeWho 0 = .ok (.aload_n 0, 1) := by decide +kernel
theorem dX6_changeWho_1 : decode cX6_changeWho 1 = .ok (.getfield 15, 3) := by decide +kernel
theorem dX6_changeWho_4 : decode cX6_changeWho 4 = .ok (.istore_n 2, 1) := by decide +kernel
theorem dX6_changeWho_5 : decode cX6_changeWho 5 = .ok (.aload_n 0, 1) := by decide +kernel
theorem dX6_changeWho_6 : decode cX6_changeWho 6 = .ok (.iload_n 1, 1) := by decide +kernel
theorem dX6_changeWho_7 : decode cX6_changeWho 7 = .ok (.putfield 15, 3) := by decide +kernel
theorem dX6_changeWho_10 : decode cX6_changeWho 10 = .ok (.iload_n 2, 1) := by decide +kernel
theorem dX6_changeWho_11 : decode cX6_changeWho 11 = .ok (.ireturn, 1) := by decide +kernel
abbrev x_X6_changeWho (E : mh_E) (d mc ms : Nat) (Post : Option Value → mh_H → Prop) : mh_X := (E, yX6_changeWho, cX6_changeWho, 3, (some .int), d, mc, ms, Post)
def q_X6_changeWho_0 (X : mh_X) : mh_PR := s_al 0 (s_gi 6 1 (s_is 2 (s_al 0 (s_il 1 (s_pi 6 1 (s_il 2 (s_iret X)))))))
theorem b_X6_changeWho_0 {E : mh_E} {d mc ms : Nat} {Post : Option Value → mh_H → Prop} : mh_S (x_X6_changeWho E d mc ms Post) 0 (q_X6_changeWho_0 (x_X6_changeWho E d mc ms Post)) := sn_aload_n dX6_changeWho_0 rfl (sn_geti clX6 (by decide) w_144 dX6_changeWho_1 (sn_istore_n dX6_changeWho_4 rfl (Nat.le_of_ble_eq_true rfl) (sn_aload_n dX6_changeWho_5 rfl (sn_iload_n dX6_changeWho_6 rfl (sn_puti clX6 (by decide) w_144 rfl rfl dX6_changeWho_7 (sn_iload_n dX6_changeWho_10 rfl (sn_iret rfl dX6_changeWho_11)))))))
theorem m_X6_changeWho {E : mh_E} {d mc ms : Nat} {args : List Value} {h : mh_H} {Post : Option Value → mh_H → Prop} (lv : List (Option Value)) (hl : lv_args 0 args = mh_al 0 lv) (hs : (lg_sl args).length ≤ 3) (hG : q_X6_changeWho_0 (x_X6_changeWho E d mc ms Post) lv [] h 0 0) : mh_M E d mc ms yX6_changeWho args h Post := mh_M.of w_489 (by decide) (by decide) hl hs (b_X6_changeWho_0 _ _ _ _ _ hG)
theorem dX6_changeWhere_0 : decode cX6_changeWhere 0 = .ok (.aload_n 0, 1) := by decide +kernel
theorem dX6_changeWhere_1 : decode cX6_changeWhere 1 = .ok (.getfield 18, 3) := by decide +kernel
theorem dX6_changeWhere_4 : decode cX6_changeWhere 4 = .ok (.istore_n 2, 1) := by decide +kernel
theorem dX6_changeWhere_5 : decode cX6_changeWhere 5 = .ok (.aload_n 0, 1) := by decide +kernel
theorem dX6_changeWhere_6 : decode cX6_changeWhere 6 = .ok (.iload_n 1, 1) := by decide +kernel
theorem dX6_changeWhere_7 : decode cX6_changeWhere 7 = .ok (.putfield 18, 3) := by decide +kernel
theorem dX6_changeWhere_10 : decode cX6_changeWhere 10 = .ok (.iload_n 2, 1) := by decide +kernel
theorem dX6_changeWhere_11 : decode cX6_changeWhere 11 = .ok (.ireturn, 1) := by decide +kernel
abbrev x_X6_changeWhere (E : mh_E) (d mc ms : Nat) (Post : Option Value → mh_H → Prop) : mh_X := (E, yX6_changeWhere, cX6_changeWhere, 3, (some .int), d, mc, ms, Post)
def q_X6_changeWhere_0 (X : mh_X) : mh_PR := s_al 0 (s_gi 6 2 (s_is 2 (s_al 0 (s_il 1 (s_pi 6 2 (s_il 2 (s_iret X)))))))
theorem b_X6_changeWhere_0 {E : mh_E} {d mc ms : Nat} {Post : Option Value → mh_H → Prop} : mh_S (x_X6_changeWhere E d mc ms Post) 0 (q_X6_changeWhere_0 (x_X6_changeWhere E d mc ms Post)) := sn_aload_n dX6_changeWhere_0 rfl (sn_geti clX6 (by decide) w_147 dX6_changeWhere_1 (sn_istore_n dX6_changeWhere_4 rfl (Nat.le_of_ble_eq_true rfl) (sn_aload_n dX6_changeWhere_5 rfl (sn_iload_n dX6_changeWhere_6 rfl (sn_puti clX6 (by decide) w_147 rfl rfl dX6_changeWhere_7 (sn_iload_n dX6_changeWhere_10 rfl (sn_iret rfl dX6_changeWhere_11)))))))
theorem m_X6_changeWhere {E : mh_E} {d mc ms : Nat} {args : List Value} {h : mh_H} {Post : Option Value → mh_H → Prop} (lv : List (Option Value)) (hl : lv_args 0 args = mh_al 0 lv) (hs : (lg_sl args).length ≤ 3) (hG : q_X6_changeWhere_0 (x_X6_changeWhere E d mc ms Post) lv [] h 0 0) : mh_M E d mc ms yX6_changeWhere args h Post := mh_M.of w_493 (by decide) (by decide) hl hs (b_X6_changeWhere_0 _ _ _ _ _ hG)
theorem dX6_changeWhat_0 : decode cX6_changeWhat 0 = .ok (.aload_n 0, 1) := by decide +kernel
theorem dX6_changeWhat_1 : decode cX6_changeWhat 1 = .ok (.getfield 21, 3) := by decide +kernel
theorem dX6_changeWhat_4 : decode cX6_changeWhat 4 = .ok (.istore_n 2, 1) := by decide +kernel
theorem dX6_changeWhat_5 : decode cX6_changeWhat 5 = .ok (.aload_n 0, 1) := by decide +kernel
theorem dX6_changeWhat_6 : decode cX6_changeWhat 6 = .ok (.iload_n 1, 1) := by decide +kernel
theorem dX6_changeWhat_7 : decode cX6_changeWhat 7 = .ok (.putfield 21, 3) := by decide +kernel
theorem dX6_changeWhat_10 : decode cX6_changeWhat 10 = .ok (.iload_n 2, 1) := by decide +kernel
theorem dX6_changeWhat_11 : decode cX6_changeWhat 11 = .ok (.ireturn, 1) := by decide +kernel
abbrev x_X6_changeWhat (E : mh_E) (d mc ms : Nat) (Post : Option Value → mh_H → Prop) : mh_X := (E, yX6_changeWhat, cX6_changeWhat, 3, (some .int), d, mc, ms, Post)
def q_X6_changeWhat_0 (X : mh_X) : mh_PR := s_al 0 (s_gi 6 3 (s_is 2 (s_al 0 (s_il 1 (s_pi 6 3 (s_il 2 (s_iret X)))))))
theorem b_X6_changeWhat_0 {E : mh_E} {d mc ms : Nat} {Post : Option Value → mh_H → Prop} : mh_S (x_X6_changeWhat E d mc ms Post) 0 (q_X6_changeWhat_0 (x_X6_changeWhat E d mc ms Post)) := sn_aload_n dX6_changeWhat_0 rfl (sn_geti clX6 (by decide) w_151 dX6_changeWhat_1 (sn_istore_n dX6_changeWhat_4 rfl (Nat.le_of_ble_eq_true rfl) (sn_aload_n dX6_changeWhat_5 rfl (sn_iload_n dX6_changeWhat_6 rfl (sn_puti clX6 (by decide) w_151 rfl rfl dX6_changeWhat_7 (sn_iload_n dX6_changeWhat_10 rfl (sn_iret rfl dX6_changeWhat_11)))))))
theorem m_X6_changeWhat {E : mh_E} {d mc ms : Nat} {args : List Value} {h : mh_H} {Post : Option Value → mh_H → Prop} (lv : List (Option Value)) (hl : lv_args 0 args = mh_al 0 lv) (hs : (lg_sl args).length ≤ 3) (hG : q_X6_changeWhat_0 (x_X6_changeWhat E d mc ms Post) lv [] h 0 0) : mh_M E d mc ms yX6_changeWhat args h Post := mh_M.of w_497 (by decide) (by decide) hl hs (b_X6_changeWhat_0 _ _ _ _ _ hG)
theorem dX6_changeWhen_0 : decode cX6_changeWhen 0 = .ok (.aload_n 0, 1) := by decide +kernel
theorem dX6_changeWhen_1 : decode cX6_changeWhen 1 = .ok (.getfield 24, 3) := by decide +kernel
theorem dX6_changeWhen_4 : decode cX6_changeWhen 4 = .ok (.istore_n 2, 1) := by decide +kernel
theorem dX6_changeWhen_5 : decode cX6_changeWhen 5 = .ok (.aload_n 0, 1) := by decide +kernel
theorem dX6_changeWhen_6 : decode cX6_changeWhen 6 = .ok (.iload_n 1, 1) := by decide +kernel
theorem dX6_changeWhen_7 : decode cX6_changeWhen 7 = .ok (.putfield 24, 3) := by decide +kernel
theorem dX6_changeWhen_10 : decode cX6_changeWhen 10 = .ok (.iload_n 2, 1) := by decide +kernel
theorem dX6_changeWhen_11 : decode cX6_changeWhen 11 = .ok (.ireturn, 1) := by decide +kernel
abbrev x_X6_changeWhen (E : mh_E) (d mc ms : Nat) (Post : Option Value → mh_H → Prop) : mh_X := (E, yX6_changeWhen, cX6_changeWhen, 3, (some .int), d, mc, ms, Post)
def q_X6_changeWhen_0 (X : mh_X) : mh_PR := s_al 0 (s_gi 6 4 (s_is 2 (s_al 0 (s_il 1 (s_pi 6 4 (s_il 2 (s_iret X)))))))
theorem b_X6_changeWhen_0 {E : mh_E} {d mc ms : Nat} {Post : Option Value → mh_H → Prop} : mh_S (x_X6_changeWhen E d mc ms Post) 0 (q_X6_changeWhen_0 (x_X6_changeWhen E d mc ms Post)) := sn_aload_n dX6_changeWhen_0 rfl (sn_geti clX6 (by decide) w_155 dX6_changeWhen_1 (sn_istore_n dX6_changeWhen_4 rfl (Nat.le_of_ble_eq_true rfl) (sn_aload_n dX6_changeWhen_5 rfl (sn_iload_n dX6_changeWhen_6 rfl (sn_puti clX6 (by decide) w_155 rfl rfl dX6_changeWhen_7 (sn_iload_n dX6_changeWhen_10 rfl (sn_iret rfl dX6_changeWhen_11)))))))
theorem m_X6_changeWhen {E : mh_E} {d mc ms : Nat} {args : List Value} {h : mh_H} {Post : Option Value → mh_H → Prop} (lv : List (Option Value)) (hl : lv_args 0 args = mh_al 0 lv) (hs : (lg_sl args).length ≤ 3) (hG : q_X6_changeWhen_0 (x_X6_changeWhen E d mc ms Post) lv [] h 0 0) : mh_M E d mc ms yX6_changeWhen args h Post := mh_M.of w_501 (by decide) (by decide) hl hs (b_X6_changeWhen_0 _ _ _ _ _ hG)
theorem dX6_isFulfilled_0 : decode cX6_isFulfilled 0 = .ok (.aload_n 0, 1) := by decide +kernel
theorem dX6_isFulfilled_1 : decode cX6_isFulfilled 1 = .ok (.getfield 28, 3) := by decide +kernel
theorem dX6_isFulfilled_4 : decode cX6_isFulfilled 4 = .ok (.ldc 27, 2) := by decide +kernel
theorem dX6_isFulfilled_6 : decode cX6_isFulfilled 6 = .ok (.if_icmp .eq 7, 3) := by decide +kernel
theorem dX6_isFulfilled_9 : decode cX6_isFulfilled 9 = .ok (.iconst 1, 1) := by decide +kernel
theorem dX6_isFulfilled_10 : decode cX6_isFulfilled 10 = .ok (.goto 4, 3) := by decide +kernel
theorem dX6_isFulfilled_13 : decode cX6_isFulfilled 13 = .ok (.iconst 0, 1) := by decide +kernel
theorem dX6_isFulfilled_14 : decode cX6_isFulfilled 14 = .ok (.ireturn, 1) := by decide +kernel
abbrev x_X6_isFulfilled (E : mh_E) (d mc ms : Nat) (Post : Option Value → mh_H → Prop) : mh_X := (E, yX6_isFulfilled, cX6_isFulfilled, 1, (some .boolean), d, mc, ms, Post)
def q_X6_isFulfilled_14 (X : mh_X) : mh_PR := s_zret X
theorem b_X6_isFulfilled_14 {E : mh_E} {d mc ms : Nat} {Post : Option Value → mh_H → Prop} : mh_S (x_X6_isFulfilled E d mc ms Post) 14 (q_X6_isFulfilled_14 (x_X6_isFulfilled E d mc ms Post)) := sn_zret rfl dX6_isFulfilled_14
def q_X6_isFulfilled_0 (X : mh_X) : mh_PR := s_al 0 (s_gi 6 5 (s_push (.int (-1000000005)) (s_if2 (fun x y => x = y) (s_push (.int (0)) (q_X6_isFulfilled_14 X)) (s_push (.int (1)) (q_X6_isFulfilled_14 X)))))
theorem b_X6_isFulfilled_0 {E : mh_E} {d mc ms : Nat} {Post : Option Value → mh_H → Prop} : mh_S (x_X6_isFulfilled E d mc ms Post) 0 (q_X6_isFulfilled_0 (x_X6_isFulfilled E d mc ms Post)) := sn_aload_n dX6_isFulfilled_0 rfl (sn_geti clX6 (by decide) w_158 dX6_isFulfilled_1 (sn_ldc dX6_isFulfilled_4 w_140 (sn_icmp_eq (tgt := 13) dX6_isFulfilled_6 (by decide) (sn_iconst dX6_isFulfilled_13 (by decide) b_X6_isFulfilled_14) (sn_iconst dX6_isFulfilled_9 (by decide) (sn_goto (tgt := 14) dX6_isFulfilled_10 (by decide) (b_X6_isFulfilled_14))))))
theorem m_X6_isFulfilled {E : mh_E} {d mc ms : Nat} {args : List Value} {h : mh_H} {Post : Option Value → mh_H → Prop} (lv : List (Option Value)) (hl : lv_args 0 args = mh_al 0 lv) (hs : (lg_sl args).length ≤ 1) (hG : q_X6_isFulfilled_0 (x_X6_isFulfilled E d mc ms Post) lv [] h 0 0) : mh_M E d mc ms yX6_isFulfilled args h Post := mh_M.of w_509 (by decide) (by decide) hl hs (b_X6_isFulfilled_0 _ _ _ _ _ hG)
theorem dX6_isOf_0 : decode cX6_isOf 0 = .ok (.aload_n 0, 1) := by decide +kernel
theorem dX6_isOf_1 : decode cX6_isOf 1 = .ok (.getfield 9, 3) := by decide +kernel
theorem dX6_isOf_4 : decode cX6_isOf 4 = .ok (.istore_n 2, 1) := by decide +kernel
theorem dX6_isOf_5 : decode cX6_isOf 5 = .ok (.iconst 0, 1) := by decide +kernel
theorem dX6_isOf_6 : decode cX6_isOf 6 = .ok (.istore_n 3, 1) := by decide +kernel
theorem dX6_isOf_7 : decode cX6_isOf 7 = .ok (.iload_n 3, 1) := by decide +kernel
theorem dX6_isOf_8 : decode cX6_isOf 8 = .ok (.bipush 6, 2) := by decide +kernel
theorem dX6_isOf_10 : decode cX6_isOf 10 = .ok (.if_icmp .ge 29, 3) := by decide +kernel
theorem dX6_isOf_13 : decode cX6_isOf 13 = .ok (.iload_n 2, 1) := by decide +kernel
theorem dX6_isOf_14 : decode cX6_isOf 14 = .ok (.invokestatic 31, 3) := by decide +kernel
theorem dX6_isOf_17 : decode cX6_isOf 17 = .ok (.ifCond .eq 22, 3) := by decide +kernel
theorem dX6_isOf_20 : decode cX6_isOf 20 = .ok (.iload_n 2, 1) := by decide +kernel
theorem dX6_isOf_21 : decode cX6_isOf 21 = .ok (.iload_n 1, 1) := by decide +kernel
theorem dX6_isOf_22 : decode cX6_isOf 22 = .ok (.if_icmp .ne 5, 3) := by decide +kernel
theorem dX6_isOf_25 : decode cX6_isOf 25 = .ok (.iconst 1, 1) := by decide +kernel
theorem dX6_isOf_26 : decode cX6_isOf 26 = .ok (.ireturn, 1) := by decide +kernel
theorem dX6_isOf_27 : decode cX6_isOf 27 = .ok (.getstatic 35, 3) := by decide +kernel
theorem dX6_isOf_30 : decode cX6_isOf 30 = .ok (.iload_n 2, 1) := by decide +kernel
theorem dX6_isOf_31 : decode cX6_isOf 31 = .ok (.iaload, 1) := by decide +kernel
theorem dX6_isOf_32 : decode cX6_isOf 32 = .ok (.istore_n 2, 1) := by decide +kernel
theorem dX6_isOf_33 : decode cX6_isOf 33 = .ok (.iinc 3 1, 3) := by decide +kernel
theorem dX6_isOf_36 : decode cX6_isOf 36 = .ok (.goto (-29), 3) := by decide +kernel
theorem dX6_isOf_39 : decode cX6_isOf 39 = .ok (.iconst 0, 1) := by decide +kernel
theorem dX6_isOf_40 : decode cX6_isOf 40 = .ok (.ireturn, 1) := by decide +kernel
abbrev x_X6_isOf (E : mh_E) (d mc ms : Nat) (Post : Option Value → mh_H → Prop) : mh_X := (E, yX6_isOf, cX6_isOf, 4, (some .boolean), d, mc, ms, Post)
def q_X6_isOf_39 (X : mh_X) : mh_PR := s_push (.int (0)) (s_zret X)
theorem b_X6_isOf_39 {E : mh_E} {d mc ms : Nat} {Post : Option Value → mh_H → Prop} : mh_S (x_X6_isOf E d mc ms Post) 39 (q_X6_isOf_39 (x_X6_isOf E d mc ms Post)) := sn_iconst dX6_isOf_39 (by decide) (sn_zret rfl dX6_isOf_40)
def q_X6_isOf_7 (X : mh_X) : mh_PR := s_il 3 (s_push (.int (6)) (s_if2 (fun x y => y ≤ x) (q_X6_isOf_39 X) (s_il 2 (s_cs X yX9_isKind 1 (s_if1 (fun x => x = 0) (q_X6_isOf_39 X) (s_il 2 (s_il 1 (s_if2 (fun x y => ¬ x = y) (s_gs X (s_il 2 (s_tald (s_is 2 (s_inc 3 (1) (mh_G X 7)))))) (s_push (.int (1)) (s_zret X))))))))))
theorem b_X6_isOf_7 {E : mh_E} {d mc ms : Nat} {Post : Option Value → mh_H → Prop} : mh_S (x_X6_isOf E d mc ms Post) 7 (q_X6_isOf_7 (x_X6_isOf E d mc ms Post)) := sn_iload_n dX6_isOf_7 rfl (sn_bipush dX6_isOf_8 (by decide) (sn_icmp_ge (tgt := 39) dX6_isOf_10 (by decide) (b_X6_isOf_39) (sn_iload_n dX6_isOf_13 rfl (sn_csN w_474 w_373 w_56 nm_X9_isKind dX6_isOf_14 (sn_if_eq (tgt := 39) dX6_isOf_17 (by decide) (b_X6_isOf_39) (sn_iload_n dX6_isOf_20 rfl (sn_iload_n dX6_isOf_21 rfl (sn_icmp_ne (tgt := 27) dX6_isOf_22 (by decide) (sn_gs w_475 dX6_isOf_27 (sn_iload_n dX6_isOf_30 rfl (sn_taload dX6_isOf_31 (sn_istore_n dX6_isOf_32 rfl (Nat.le_of_ble_eq_true rfl) (sn_iinc dX6_isOf_33 (by decide) (Nat.le_of_ble_eq_true rfl) (sn_goto (tgt := 7) dX6_isOf_36 (by decide) (mh_S.G))))))) (sn_iconst dX6_isOf_25 (by decide) (sn_zret rfl dX6_isOf_26))))))))))
def q_X6_isOf_0 (X : mh_X) : mh_PR := s_al 0 (s_gi 6 0 (s_is 2 (s_push (.int (0)) (s_is 3 (mh_G X 7)))))
theorem b_X6_isOf_0 {E : mh_E} {d mc ms : Nat} {Post : Option Value → mh_H → Prop} : mh_S (x_X6_isOf E d mc ms Post) 0 (q_X6_isOf_0 (x_X6_isOf E d mc ms Post)) := sn_aload_n dX6_isOf_0 rfl (sn_geti clX6 (by decide) w_141 dX6_isOf_1 (sn_istore_n dX6_isOf_4 rfl (Nat.le_of_ble_eq_true rfl) (sn_iconst dX6_isOf_5 (by decide) (sn_istore_n dX6_isOf_6 rfl (Nat.le_of_ble_eq_true rfl) mh_S.G))))
theorem m_X6_isOf {E : mh_E} {d mc ms : Nat} {args : List Value} {h : mh_H} {Post : Option Value → mh_H → Prop} (lv : List (Option Value)) (hl : lv_args 0 args = mh_al 0 lv) (hs : (lg_sl args).length ≤ 4) (hG : q_X6_isOf_0 (x_X6_isOf E d mc ms Post) lv [] h 0 0) : mh_M E d mc ms yX6_isOf args h Post := mh_M.of w_473 (by decide) (by decide) hl hs (b_X6_isOf_0 _ _ _ _ _ hG)
theorem dX6_holdsWith_0 : decode cX6_holdsWith 0 = .ok (.iconst 1, 1) := by decide +kernel
theorem dX6_holdsWith_1 : decode cX6_holdsWith 1 = .ok (.aload_n 0, 1) := by decide +kernel
theorem dX6_holdsWith_2 : decode cX6_holdsWith 2 = .ok (.getfield 15, 3) := by decide +kernel
theorem dX6_holdsWith_5 : decode cX6_holdsWith 5 = .ok (.ishl, 1) := by decide +kernel
theorem dX6_holdsWith_6 : decode cX6_holdsWith 6 = .ok (.istore_n 3, 1) := by decide +kernel
theorem dX6_holdsWith_7 : decode cX6_holdsWith 7 = .ok (.aload_n 0, 1) := by decide +kernel
theorem dX6_holdsWith_8 : decode cX6_holdsWith 8 = .ok (.getfield 9, 3) := by decide +kernel
theorem dX6_holdsWith_11 : decode cX6_holdsWith 11 = .ok (.tableswitch 96 1 5 #[33, 62, 45, 74, 86], 33) := by decide +kernel
theorem dX6_holdsWith_44 : decode cX6_holdsWith 44 = .ok (.iload_n 1, 1) := by decide +kernel
theorem dX6_holdsWith_45 : decode cX6_holdsWith 45 = .ok (.iload_n 3, 1) := by decide +kernel
theorem dX6_holdsWith_46 : decode cX6_holdsWith 46 = .ok (.iand, 1) := by decide +kernel
theorem dX6_holdsWith_47 : decode cX6_holdsWith 47 = .ok (.ifCond .eq 7, 3) := by decide +kernel
theorem dX6_holdsWith_50 : decode cX6_holdsWith 50 = .ok (.iconst 1, 1) := by decide +kernel
theorem dX6_holdsWith_51 : decode cX6_holdsWith 51 = .ok (.goto 4, 3) := by decide +kernel
theorem dX6_holdsWith_54 : decode cX6_holdsWith 54 = .ok (.iconst 0, 1) := by decide +kernel
theorem dX6_holdsWith_55 : decode cX6_holdsWith 55 = .ok (.ireturn, 1) := by decide +kernel
theorem dX6_holdsWith_56 : decode cX6_holdsWith 56 = .ok (.iload_n 1, 1) := by decide +kernel
theorem dX6_holdsWith_57 : decode cX6_holdsWith 57 = .ok (.iload_n 3, 1) := by decide +kernel
theorem dX6_holdsWith_58 : decode cX6_holdsWith 58 = .ok (.iand, 1) := by decide +kernel
theorem dX6_holdsWith_59 : decode cX6_holdsWith 59 = .ok (.ifCond .eq 12, 3) := by decide +kernel
theorem dX6_holdsWith_62 : decode cX6_holdsWith 62 = .ok (.iload_n 1, 1) := by decide +kernel
theorem dX6_holdsWith_63 : decode cX6_holdsWith 63 = .ok (.iload_n 3, 1) := by decide +kernel
theorem dX6_holdsWith_64 : decode cX6_holdsWith 64 = .ok (.if_icmp .eq 7, 3) := by decide +kernel
theorem dX6_holdsWith_67 : decode cX6_holdsWith 67 = .ok (.iconst 1, 1) := by decide +kernel
theorem dX6_holdsWith_68 : decode cX6_holdsWith 68 = .ok (.goto 4, 3) := by decide +kernel
theorem dX6_holdsWith_71 : decode cX6_holdsWith 71 = .ok (.iconst 0, 1) := by decide +kernel
theorem dX6_holdsWith_72 : decode cX6_holdsWith 72 = .ok (.ireturn, 1) := by decide +kernel
theorem dX6_holdsWith_73 : decode cX6_holdsWith 73 = .ok (.iload_n 2, 1) := by decide +kernel
theorem dX6_holdsWith_74 : decode cX6_holdsWith 74 = .ok (.iload_n 3, 1) := by decide +kernel
theorem dX6_holdsWith_75 : decode cX6_holdsWith 75 = .ok (.iand, 1) := by decide +kernel
theorem dX6_holdsWith_76 : decode cX6_holdsWith 76 = .ok (.ifCond .eq 7, 3) := by decide +kernel
theorem dX6_holdsWith_79 : decode cX6_holdsWith 79 = .ok (.iconst 1, 1) := by decide +kernel
theorem dX6_holdsWith_80 : decode cX6_holdsWith 80 = .ok (.goto 4, 3) := by decide +kernel
theorem dX6_holdsWith_83 : decode cX6_holdsWith 83 = .ok (.iconst 0, 1) := by decide +kernel
theorem dX6_holdsWith_84 : decode cX6_holdsWith 84 = .ok (.ireturn, 1) := by decide +kernel
theorem dX6_holdsWith_85 : decode cX6_holdsWith 85 = .ok (.iload_n 1, 1) := by decide +kernel
theorem dX6_holdsWith_86 : decode cX6_holdsWith 86 = .ok (.iload_n 2, 1) := by decide +kernel
theorem dX6_holdsWith_87 : decode cX6_holdsWith 87 = .ok (.iand, 1) := by decide +kernel
theorem dX6_holdsWith_88 : decode cX6_holdsWith 88 = .ok (.ifCond .eq 7, 3) := by decide +kernel
theorem dX6_holdsWith_91 : decode cX6_holdsWith 91 = .ok (.iconst 1, 1) := by decide +kernel
theorem dX6_holdsWith_92 : decode cX6_holdsWith 92 = .ok (.goto 4, 3) := by decide +kernel
theorem dX6_holdsWith_95 : decode cX6_holdsWith 95 = .ok (.iconst 0, 1) := by decide +kernel
theorem dX6_holdsWith_96 : decode cX6_holdsWith 96 = .ok (.ireturn, 1) := by decide +kernel
theorem dX6_holdsWith_97 : decode cX6_holdsWith 97 = .ok (.iload_n 1, 1) := by decide +kernel
theorem dX6_holdsWith_98 : decode cX6_holdsWith 98 = .ok (.ifCond .ne 7, 3) := by decide +kernel
theorem dX6_holdsWith_101 : decode cX6_holdsWith 101 = .ok (.iconst 1, 1) := by decide +kernel
theorem dX6_holdsWith_102 : decode cX6_holdsWith 102 = .ok (.goto 4, 3) := by decide +kernel
theorem dX6_holdsWith_105 : decode cX6_holdsWith 105 = .ok (.iconst 0, 1) := by decide +kernel
theorem dX6_holdsWith_106 : decode cX6_holdsWith 106 = .ok (.ireturn, 1) := by decide +kernel
theorem dX6_holdsWith_107 : decode cX6_holdsWith 107 = .ok (.iload_n 1, 1) := by decide +kernel
theorem dX6_holdsWith_108 : decode cX6_holdsWith 108 = .ok (.iload_n 2, 1) := by decide +kernel
theorem dX6_holdsWith_109 : decode cX6_holdsWith 109 = .ok (.iand, 1) := by decide +kernel
theorem dX6_holdsWith_110 : decode cX6_holdsWith 110 = .ok (.iload_n 3, 1) := by decide +kernel
theorem dX6_holdsWith_111 : decode cX6_holdsWith 111 = .ok (.iand, 1) := by decide +kernel
theorem dX6_holdsWith_112 : decode cX6_holdsWith 112 = .ok (.ifCond .eq 7, 3) := by decide +kernel
theorem dX6_holdsWith_115 : decode cX6_holdsWith 115 = .ok (.iconst 1, 1) := by decide +kernel
theorem dX6_holdsWith_116 : decode cX6_holdsWith 116 = .ok (.goto 4, 3) := by decide +kernel
theorem dX6_holdsWith_119 : decode cX6_holdsWith 119 = .ok (.iconst 0, 1) := by decide +kernel
theorem dX6_holdsWith_120 : decode cX6_holdsWith 120 = .ok (.ireturn, 1) := by decide +kernel
abbrev x_X6_holdsWith (E : mh_E) (d mc ms : Nat) (Post : Option Value → mh_H → Prop) : mh_X := (E, yX6_holdsWith, cX6_holdsWith, 4, (some .boolean), d, mc, ms, Post)
def q_X6_holdsWith_120 (X : mh_X) : mh_PR := s_zret X
theorem b_X6_holdsWith_120 {E : mh_E} {d mc ms : Nat} {Post : Option Value → mh_H → Prop} : mh_S (x_X6_holdsWith E d mc ms Post) 120 (q_X6_holdsWith_120 (x_X6_holdsWith E d mc ms Post)) := sn_zret rfl dX6_holdsWith_120
def q_X6_holdsWith_106 (X : mh_X) : mh_PR := s_zret X
theorem b_X6_holdsWith_106 {E : mh_E} {d mc ms : Nat} {Post : Option Value → mh_H → Prop} : mh_S (x_X6_holdsWith E d mc ms Post) 106 (q_X6_holdsWith_106 (x_X6_holdsWith E d mc ms Post)) := sn_zret rfl dX6_holdsWith_106
def q_X6_holdsWith_96 (X : mh_X) : mh_PR := s_zret X
theorem b_X6_holdsWith_96 {E : mh_E} {d mc ms : Nat} {Post : Option Value → mh_H → Prop} : mh_S (x_X6_holdsWith E d mc ms Post) 96 (q_X6_holdsWith_96 (x_X6_holdsWith E d mc ms Post)) := sn_zret rfl dX6_holdsWith_96
def q_X6_holdsWith_84 (X : mh_X) : mh_PR := s_zret X
theorem b_X6_holdsWith_84 {E : mh_E} {d mc ms : Nat} {Post : Option Value → mh_H → Prop} : mh_S (x_X6_holdsWith E d mc ms Post) 84 (q_X6_holdsWith_84 (x_X6_holdsWith E d mc ms Post)) := sn_zret rfl dX6_holdsWith_84
def q_X6_holdsWith_72 (X : mh_X) : mh_PR := s_zret X
theorem b_X6_holdsWith_72 {E : mh_E} {d mc ms : Nat} {Post : Option Value → mh_H → Prop} : mh_S (x_X6_holdsWith E d mc ms Post) 72 (q_X6_holdsWith_72 (x_X6_holdsWith E d mc ms Post)) := sn_zret rfl dX6_holdsWith_72
def q_X6_holdsWith_71 (X : mh_X) : mh_PR := s_push (.int (0)) (q_X6_holdsWith_72 X)
theorem b_X6_holdsWith_71 {E : mh_E} {d mc ms : Nat} {Post : Option Value → mh_H → Prop} : mh_S (x_X6_holdsWith E d mc ms Post) 71 (q_X6_holdsWith_71 (x_X6_holdsWith E d mc ms Post)) := sn_iconst dX6_holdsWith_71 (by decide) b_X6_holdsWith_72
def q_X6_holdsWith_55 (X : mh_X) : mh_PR := s_zret X
theorem b_X6_holdsWith_55 {E : mh_E} {d mc ms : Nat} {Post : Option Value → mh_H → Prop} : mh_S (x_X6_holdsWith E d mc ms Post) 55 (q_X6_holdsWith_55 (x_X6_holdsWith E d mc ms Post)) := sn_zret rfl dX6_holdsWith_55
def q_X6_holdsWith_0 (X : mh_X) : mh_PR := s_push (.int (1)) (s_al 0 (s_gi 6 1 (s_bin mh_shl (s_is 3 (s_al 0 (s_gi 6 0 (s_sw [((1 : Int32), s_il 1 (s_il 3 (s_bin (fun x y => x &&& y) (s_if1 (fun x => x = 0) (s_push (.int (0)) (q_X6_holdsWith_55 X)) (s_push (.int (1)) (q_X6_holdsWith_55 X)))))), ((2 : Int32), s_il 2 (s_il 3 (s_bin (fun x y => x &&& y) (s_if1 (fun x => x = 0) (s_push (.int (0)) (q_X6_holdsWith_84 X)) (s_push (.int (1)) (q_X6_holdsWith_84 X)))))), ((3 : Int32), s_il 1 (s_il 3 (s_bin (fun x y => x &&& y) (s_if1 (fun x => x = 0) (q_X6_holdsWith_71 X) (s_il 1 (s_il 3 (s_if2 (fun x y => x = y) (q_X6_holdsWith_71 X) (s_push (.int (1)) (q_X6_holdsWith_72 X))))))))), ((4 : Int32), s_il 1 (s_il 2 (s_bin (fun x y => x &&& y) (s_if1 (fun x => x = 0) (s_push (.int (0)) (q_X6_holdsWith_96 X)) (s_push (.int (1)) (q_X6_holdsWith_96 X)))))), ((5 : Int32), s_il 1 (s_if1 (fun x => ¬ x = 0) (s_push (.int (0)) (q_X6_holdsWith_106 X)) (s_push (.int (1)) (q_X6_holdsWith_106 X))))] (s_il 1 (s_il 2 (s_bin (fun x y => x &&& y) (s_il 3 (s_bin (fun x y => x &&& y) (s_if1 (fun x => x = 0) (s_push (.int (0)) (q_X6_holdsWith_120 X)) (s_push (.int (1)) (q_X6_holdsWith_120 X)))))))))))))))
theorem b_X6_holdsWith_0 {E : mh_E} {d mc ms : Nat} {Post : Option Value → mh_H → Prop} : mh_S (x_X6_holdsWith E d mc ms Post) 0 (q_X6_holdsWith_0 (x_X6_holdsWith E d mc ms Post)) := sn_iconst dX6_holdsWith_0 (by decide) (sn_aload_n dX6_holdsWith_1 rfl (sn_geti clX6 (by decide) w_144 dX6_holdsWith_2 (sn_ishl dX6_holdsWith_5 (sn_istore_n dX6_holdsWith_6 rfl (Nat.le_of_ble_eq_true rfl) (sn_aload_n dX6_holdsWith_7 rfl (sn_geti clX6 (by decide) w_141 dX6_holdsWith_8 (sn_table (tgt := 107) (ts := [(1, 33, 44), (2, 62, 73), (3, 45, 56), (4, 74, 85), (5, 86, 97)]) dX6_holdsWith_11 (by decide +kernel) (by decide +kernel) (sw_cons (sn_iload_n dX6_holdsWith_44 rfl (sn_iload_n dX6_holdsWith_45 rfl (sn_iand dX6_holdsWith_46 (sn_if_eq (tgt := 54) dX6_holdsWith_47 (by decide) (sn_iconst dX6_holdsWith_54 (by decide) b_X6_holdsWith_55) (sn_iconst dX6_holdsWith_50 (by decide) (sn_goto (tgt := 55) dX6_holdsWith_51 (by decide) (b_X6_holdsWith_55))))))) (sw_cons (sn_iload_n dX6_holdsWith_73 rfl (sn_iload_n dX6_holdsWith_74 rfl (sn_iand dX6_holdsWith_75 (sn_if_eq (tgt := 83) dX6_holdsWith_76 (by decide) (sn_iconst dX6_holdsWith_83 (by decide) b_X6_holdsWith_84) (sn_iconst dX6_holdsWith_79 (by decide) (sn_goto (tgt := 84) dX6_holdsWith_80 (by decide) (b_X6_holdsWith_84))))))) (sw_cons (sn_iload_n dX6_holdsWith_56 rfl (sn_iload_n dX6_holdsWith_57 rfl (sn_iand dX6_holdsWith_58 (sn_if_eq (tgt := 71) dX6_holdsWith_59 (by decide) (b_X6_holdsWith_71) (sn_iload_n dX6_holdsWith_62 rfl (sn_iload_n dX6_holdsWith_63 rfl (sn_icmp_eq (tgt := 71) dX6_holdsWith_64 (by decide) (b_X6_holdsWith_71) (sn_iconst dX6_holdsWith_67 (by decide) (sn_goto (tgt := 72) dX6_holdsWith_68 (by decide) (b_X6_holdsWith_72)))))))))) (sw_cons (sn_iload_n dX6_holdsWith_85 rfl (sn_iload_n dX6_holdsWith_86 rfl (sn_iand dX6_holdsWith_87 (sn_if_eq (tgt := 95) dX6_holdsWith_88 (by decide) (sn_iconst dX6_holdsWith_95 (by decide) b_X6_holdsWith_96) (sn_iconst dX6_holdsWith_91 (by decide) (sn_goto (tgt := 96) dX6_holdsWith_92 (by decide) (b_X6_holdsWith_96))))))) (sw_cons (sn_iload_n dX6_holdsWith_97 rfl (sn_if_ne (tgt := 105) dX6_holdsWith_98 (by decide) (sn_iconst dX6_holdsWith_105 (by decide) b_X6_holdsWith_106) (sn_iconst dX6_holdsWith_101 (by decide) (sn_goto (tgt := 106) dX6_holdsWith_102 (by decide) (b_X6_holdsWith_106))))) sw_nil))))) (by decide) (sn_iload_n dX6_holdsWith_107 rfl (sn_iload_n dX6_holdsWith_108 rfl (sn_iand dX6_holdsWith_109 (sn_iload_n dX6_holdsWith_110 rfl (sn_iand dX6_holdsWith_111 (sn_if_eq (tgt := 119) dX6_holdsWith_112 (by decide) (sn_iconst dX6_holdsWith_119 (by decide) b_X6_holdsWith_120) (sn_iconst dX6_holdsWith_115 (by decide) (sn_goto (tgt := 120) dX6_holdsWith_116 (by decide) (b_X6_holdsWith_120))))))))))))))))
theorem m_X6_holdsWith {E : mh_E} {d mc ms : Nat} {args : List Value} {h : mh_H} {Post : Option Value → mh_H → Prop} (lv : List (Option Value)) (hl : lv_args 0 args = mh_al 0 lv) (hs : (lg_sl args).length ≤ 4) (hG : q_X6_holdsWith_0 (x_X6_holdsWith E d mc ms Post) lv [] h 0 0) : mh_M E d mc ms yX6_holdsWith args h Post := mh_M.of w_419 (by decide) (by decide) hl hs (b_X6_holdsWith_0 _ _ _ _ _ hG)
theorem dX6_keepsBy_0 : decode cX6_keepsBy 0 = .ok (.aload_n 0, 1) := by decide +kernel
theorem dX6_keepsBy_1 : decode cX6_keepsBy 1 = .ok (.getfield 9, 3) := by decide +kernel
theorem dX6_keepsBy_4 : decode cX6_keepsBy 4 = .ok (.tableswitch 58 1 5 #[36, 46, 40, 50, 56], 36) := by decide +kernel
theorem dX6_keepsBy_40 : decode cX6_keepsBy 40 = .ok (.iload_n 1, 1) := by decide +kernel
theorem dX6_keepsBy_41 : decode cX6_keepsBy 41 = .ok (.iconst 2, 1) := by decide +kernel
theorem dX6_keepsBy_42 : decode cX6_keepsBy 42 = .ok (.idiv, 1) := by decide +kernel
theorem dX6_keepsBy_43 : decode cX6_keepsBy 43 = .ok (.ireturn, 1) := by decide +kernel
theorem dX6_keepsBy_44 : decode cX6_keepsBy 44 = .ok (.iload_n 1, 1) := by decide +kernel
theorem dX6_keepsBy_45 : decode cX6_keepsBy 45 = .ok (.iconst 2, 1) := by decide +kernel
theorem dX6_keepsBy_46 : decode cX6_keepsBy 46 = .ok (.idiv, 1) := by decide +kernel
theorem dX6_keepsBy_47 : decode cX6_keepsBy 47 = .ok (.iconst 1, 1) := by decide +kernel
theorem dX6_keepsBy_48 : decode cX6_keepsBy 48 = .ok (.iadd, 1) := by decide +kernel
theorem dX6_keepsBy_49 : decode cX6_keepsBy 49 = .ok (.ireturn, 1) := by decide +kernel
theorem dX6_keepsBy_50 : decode cX6_keepsBy 50 = .ok (.iconst 2, 1) := by decide +kernel
theorem dX6_keepsBy_51 : decode cX6_keepsBy 51 = .ok (.iload_n 1, 1) := by decide +kernel
theorem dX6_keepsBy_52 : decode cX6_keepsBy 52 = .ok (.imul, 1) := by decide +kernel
theorem dX6_keepsBy_53 : decode cX6_keepsBy 53 = .ok (.ireturn, 1) := by decide +kernel
theorem dX6_keepsBy_54 : decode cX6_keepsBy 54 = .ok (.iconst 2, 1) := by decide +kernel
theorem dX6_keepsBy_55 : decode cX6_keepsBy 55 = .ok (.iload_n 1, 1) := by decide +kernel
theorem dX6_keepsBy_56 : decode cX6_keepsBy 56 = .ok (.imul, 1) := by decide +kernel
theorem dX6_keepsBy_57 : decode cX6_keepsBy 57 = .ok (.iconst 3, 1) := by decide +kernel
theorem dX6_keepsBy_58 : decode cX6_keepsBy 58 = .ok (.iadd, 1) := by decide +kernel
theorem dX6_keepsBy_59 : decode cX6_keepsBy 59 = .ok (.ireturn, 1) := by decide +kernel
theorem dX6_keepsBy_60 : decode cX6_keepsBy 60 = .ok (.iconst 0, 1) := by decide +kernel
theorem dX6_keepsBy_61 : decode cX6_keepsBy 61 = .ok (.ireturn, 1) := by decide +kernel
theorem dX6_keepsBy_62 : decode cX6_keepsBy 62 = .ok (.iload_n 1, 1) := by decide +kernel
theorem dX6_keepsBy_63 : decode cX6_keepsBy 63 = .ok (.ireturn, 1) := by decide +kernel
abbrev x_X6_keepsBy (E : mh_E) (d mc ms : Nat) (Post : Option Value → mh_H → Prop) : mh_X := (E, yX6_keepsBy, cX6_keepsBy, 2, (some .int), d, mc, ms, Post)
def q_X6_keepsBy_0 (X : mh_X) : mh_PR := s_al 0 (s_gi 6 0 (s_sw [((1 : Int32), s_il 1 (s_push (.int (2)) (s_div (fun x y => x / y) (s_iret X)))), ((2 : Int32), s_push (.int (2)) (s_il 1 (s_bin (fun x y => x * y) (s_iret X)))), ((3 : Int32), s_il 1 (s_push (.int (2)) (s_div (fun x y => x / y) (s_push (.int (1)) (s_bin (fun x y => x + y) (s_iret X)))))), ((4 : Int32), s_push (.int (2)) (s_il 1 (s_bin (fun x y => x * y) (s_push (.int (3)) (s_bin (fun x y => x + y) (s_iret X)))))), ((5 : Int32), s_push (.int (0)) (s_iret X))] (s_il 1 (s_iret X))))
theorem b_X6_keepsBy_0 {E : mh_E} {d mc ms : Nat} {Post : Option Value → mh_H → Prop} : mh_S (x_X6_keepsBy E d mc ms Post) 0 (q_X6_keepsBy_0 (x_X6_keepsBy E d mc ms Post)) := sn_aload_n dX6_keepsBy_0 rfl (sn_geti clX6 (by decide) w_141 dX6_keepsBy_1 (sn_table (tgt := 62) (ts := [(1, 36, 40), (2, 46, 50), (3, 40, 44), (4, 50, 54), (5, 56, 60)]) dX6_keepsBy_4 (by decide +kernel) (by decide +kernel) (sw_cons (sn_iload_n dX6_keepsBy_40 rfl (sn_iconst dX6_keepsBy_41 (by decide) (sn_idiv dX6_keepsBy_42 (sn_iret rfl dX6_keepsBy_43)))) (sw_cons (sn_iconst dX6_keepsBy_50 (by decide) (sn_iload_n dX6_keepsBy_51 rfl (sn_imul dX6_keepsBy_52 (sn_iret rfl dX6_keepsBy_53)))) (sw_cons (sn_iload_n dX6_keepsBy_44 rfl (sn_iconst dX6_keepsBy_45 (by decide) (sn_idiv dX6_keepsBy_46 (sn_iconst dX6_keepsBy_47 (by decide) (sn_iadd dX6_keepsBy_48 (sn_iret rfl dX6_keepsBy_49)))))) (sw_cons (sn_iconst dX6_keepsBy_54 (by decide) (sn_iload_n dX6_keepsBy_55 rfl (sn_imul dX6_keepsBy_56 (sn_iconst dX6_keepsBy_57 (by decide) (sn_iadd dX6_keepsBy_58 (sn_iret rfl dX6_keepsBy_59)))))) (sw_cons (sn_iconst dX6_keepsBy_60 (by decide) (sn_iret rfl dX6_keepsBy_61)) sw_nil))))) (by decide) (sn_iload_n dX6_keepsBy_62 rfl (sn_iret rfl dX6_keepsBy_63))))
theorem m_X6_keepsBy {E : mh_E} {d mc ms : Nat} {args : List Value} {h : mh_H} {Post : Option Value → mh_H → Prop} (lv : List (Option Value)) (hl : lv_args 0 args = mh_al 0 lv) (hs : (lg_sl args).length ≤ 2) (hG : q_X6_keepsBy_0 (x_X6_keepsBy E d mc ms Post) lv [] h 0 0) : mh_M E d mc ms yX6_keepsBy args h Post := mh_M.of w_461 (by decide) (by decide) hl hs (b_X6_keepsBy_0 _ _ _ _ _ hG)
theorem dX6_worth_0 : decode cX6_worth 0 = .ok (.aload_n 0, 1) := by decide +kernel
theorem dX6_worth_1 : decode cX6_worth 1 = .ok (.getfield 9, 3) := by decide +kernel
theorem dX6_worth_4 : decode cX6_worth 4 = .ok (.tableswitch 73 1 5 #[36, 52, 43, 60, 70], 36) := by decide +kernel
theorem dX6_worth_40 : decode cX6_worth 40 = .ok (.aload_n 0, 1) := by decide +kernel
theorem dX6_worth_41 : decode cX6_worth 41 = .ok (.getfield 21, 3) := by decide +kernel
theorem dX6_worth_44 : decode cX6_worth 44 = .ok (.iconst 5, 1) := by decide +kernel
theorem dX6_worth_45 : decode cX6_worth 45 = .ok (.iadd, 1) := by decide +kernel
theorem dX6_worth_46 : decode cX6_worth 46 = .ok (.ireturn, 1) := by decide +kernel
theorem dX6_worth_47 : decode cX6_worth 47 = .ok (.iconst 2, 1) := by decide +kernel
theorem dX6_worth_48 : decode cX6_worth 48 = .ok (.aload_n 0, 1) := by decide +kernel
theorem dX6_worth_49 : decode cX6_worth 49 = .ok (.getfield 21, 3) := by decide +kernel
theorem dX6_worth_52 : decode cX6_worth 52 = .ok (.iconst 5, 1) := by decide +kernel
theorem dX6_worth_53 : decode cX6_worth 53 = .ok (.iadd, 1) := by decide +kernel
theorem dX6_worth_54 : decode cX6_worth 54 = .ok (.imul, 1) := by decide +kernel
theorem dX6_worth_55 : decode cX6_worth 55 = .ok (.ireturn, 1) := by decide +kernel
theorem dX6_worth_56 : decode cX6_worth 56 = .ok (.bipush 9, 2) := by decide +kernel
theorem dX6_worth_58 : decode cX6_worth 58 = .ok (.aload_n 0, 1) := by decide +kernel
theorem dX6_worth_59 : decode cX6_worth 59 = .ok (.getfield 21, 3) := by decide +kernel
theorem dX6_worth_62 : decode cX6_worth 62 = .ok (.isub, 1) := by decide +kernel
theorem dX6_worth_63 : decode cX6_worth 63 = .ok (.ireturn, 1) := by decide +kernel
theorem dX6_worth_64 : decode cX6_worth 64 = .ok (.bipush 9, 2) := by decide +kernel
theorem dX6_worth_66 : decode cX6_worth 66 = .ok (.aload_n 0, 1) := by decide +kernel
theorem dX6_worth_67 : decode cX6_worth 67 = .ok (.getfield 21, 3) := by decide +kernel
theorem dX6_worth_70 : decode cX6_worth 70 = .ok (.isub, 1) := by decide +kernel
theorem dX6_worth_71 : decode cX6_worth 71 = .ok (.iconst 4, 1) := by decide +kernel
theorem dX6_worth_72 : decode cX6_worth 72 = .ok (.isub, 1) := by decide +kernel
theorem dX6_worth_73 : decode cX6_worth 73 = .ok (.ireturn, 1) := by decide +kernel
theorem dX6_worth_74 : decode cX6_worth 74 = .ok (.bipush 8, 2) := by decide +kernel
theorem dX6_worth_76 : decode cX6_worth 76 = .ok (.ireturn, 1) := by decide +kernel
theorem dX6_worth_77 : decode cX6_worth 77 = .ok (.aload_n 0, 1) := by decide +kernel
theorem dX6_worth_78 : decode cX6_worth 78 = .ok (.getfield 21, 3) := by decide +kernel
theorem dX6_worth_81 : decode cX6_worth 81 = .ok (.ireturn, 1) := by decide +kernel
abbrev x_X6_worth (E : mh_E) (d mc ms : Nat) (Post : Option Value → mh_H → Prop) : mh_X := (E, yX6_worth, cX6_worth, 1, (some .int), d, mc, ms, Post)
def q_X6_worth_0 (X : mh_X) : mh_PR := s_al 0 (s_gi 6 0 (s_sw [((1 : Int32), s_al 0 (s_gi 6 3 (s_push (.int (5)) (s_bin (fun x y => x + y) (s_iret X))))), ((2 : Int32), s_push (.int (9)) (s_al 0 (s_gi 6 3 (s_bin (fun x y => x - y) (s_iret X))))), ((3 : Int32), s_push (.int (2)) (s_al 0 (s_gi 6 3 (s_push (.int (5)) (s_bin (fun x y => x + y) (s_bin (fun x y => x * y) (s_iret X))))))), ((4 : Int32), s_push (.int (9)) (s_al 0 (s_gi 6 3 (s_bin (fun x y => x - y) (s_push (.int (4)) (s_bin (fun x y => x - y) (s_iret X))))))), ((5 : Int32), s_push (.int (8)) (s_iret X))] (s_al 0 (s_gi 6 3 (s_iret X)))))
theorem b_X6_worth_0 {E : mh_E} {d mc ms : Nat} {Post : Option Value → mh_H → Prop} : mh_S (x_X6_worth E d mc ms Post) 0 (q_X6_worth_0 (x_X6_worth E d mc ms Post)) := sn_aload_n dX6_worth_0 rfl (sn_geti clX6 (by decide) w_141 dX6_worth_1 (sn_table (tgt := 77) (ts := [(1, 36, 40), (2, 52, 56), (3, 43, 47), (4, 60, 64), (5, 70, 74)]) dX6_worth_4 (by decide +kernel) (by decide +kernel) (sw_cons (sn_aload_n dX6_worth_40 rfl (sn_geti clX6 (by decide) w_151 dX6_worth_41 (sn_iconst dX6_worth_44 (by decide) (sn_iadd dX6_worth_45 (sn_iret rfl dX6_worth_46))))) (sw_cons (sn_bipush dX6_worth_56 (by decide) (sn_aload_n dX6_worth_58 rfl (sn_geti clX6 (by decide) w_151 dX6_worth_59 (sn_isub dX6_worth_62 (sn_iret rfl dX6_worth_63))))) (sw_cons (sn_iconst dX6_worth_47 (by decide) (sn_aload_n dX6_worth_48 rfl (sn_geti clX6 (by decide) w_151 dX6_worth_49 (sn_iconst dX6_worth_52 (by decide) (sn_iadd dX6_worth_53 (sn_imul dX6_worth_54 (sn_iret rfl dX6_worth_55))))))) (sw_cons (sn_bipush dX6_worth_64 (by decide) (sn_aload_n dX6_worth_66 rfl (sn_geti clX6 (by decide) w_151 dX6_worth_67 (sn_isub dX6_worth_70 (sn_iconst dX6_worth_71 (by decide) (sn_isub dX6_worth_72 (sn_iret rfl dX6_worth_73))))))) (sw_cons (sn_bipush dX6_worth_74 (by decide) (sn_iret rfl dX6_worth_76)) sw_nil))))) (by decide) (sn_aload_n dX6_worth_77 rfl (sn_geti clX6 (by decide) w_151 dX6_worth_78 (sn_iret rfl dX6_worth_81)))))
theorem m_X6_worth {E : mh_E} {d mc ms : Nat} {args : List Value} {h : mh_H} {Post : Option Value → mh_H → Prop} (lv : List (Option Value)) (hl : lv_args 0 args = mh_al 0 lv) (hs : (lg_sl args).length ≤ 1) (hG : q_X6_worth_0 (x_X6_worth E d mc ms Post) lv [] h 0 0) : mh_M E d mc ms yX6_worth args h Post := mh_M.of w_465 (by decide) (by decide) hl hs (b_X6_worth_0 _ _ _ _ _ hG)
