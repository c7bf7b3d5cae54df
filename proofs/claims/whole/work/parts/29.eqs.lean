/-! PART 29: the steps, applied: rewriting rows for symbolic walks; calls by exact contracts -/
section EQS
variable {X : mh_X} {P P2 : mh_PR} {lv : List (Option Value)} {st r : List Value} {h : mh_H} {k n i ci q a b kd na N : Nat} {x y : Int32} {xl yl : Int64} {v u : Value} {f1 : Int32 → Int32} {f2 : Int32 → Int32 → Int32} {q1 : Int32 → Prop} {q2 : Int32 → Int32 → Prop}
theorem e_push : s_push v P lv st h k n = P lv (v :: st) h k n := rfl
theorem e_il : s_il i P lv st h k n = (match mh_get lv i with
  | some (.int x) => P lv (.int x :: st) h k n
  | _ => False) := rfl
theorem e_ll : s_ll i P lv st h k n = (match mh_get lv i with
  | some (.long x) => P lv (.long x :: st) h k n
  | _ => False) := rfl
theorem e_al : s_al i P lv st h k n = (match mh_get lv i with
  | some (.ref x) => P lv (.ref x :: st) h k n
  | some .null => P lv (.null :: st) h k n
  | _ => False) := rfl
theorem e_is : s_is i P lv (.int x :: r) h k n = (mh_one lv i = true ∧ P (mh_set lv i (.int x)) r h k n) := rfl
theorem e_ls : s_ls i P lv (.long xl :: r) h k n = (mh_two lv i = true ∧ P (mh_set lv i (.long xl)) r h k n) := rfl
theorem e_as : s_as i P lv (.ref a :: r) h k n = (mh_one lv i = true ∧ P (mh_set lv i (.ref a)) r h k n) := rfl
theorem e_asN : s_as i P lv (.null :: r) h k n = (mh_one lv i = true ∧ P (mh_set lv i .null) r h k n) := rfl
theorem e_inc : s_inc i y P lv st h k n = (match mh_get lv i with
  | some (.int x) => mh_one lv i = true ∧ P (mh_set lv i (.int (x + y))) st h k n
  | _ => False) := rfl
theorem e_bin : s_bin f2 P lv (.int y :: .int x :: r) h k n = P lv (.int (f2 x y) :: r) h k n := rfl
theorem e_un : s_un f1 P lv (.int x :: r) h k n = P lv (.int (f1 x) :: r) h k n := rfl
theorem e_div : s_div f2 P lv (.int y :: .int x :: r) h k n = (¬ y = 0 ∧ P lv (.int (f2 x y) :: r) h k n) := rfl
theorem e_i2l : s_i2l P lv (.int x :: r) h k n = P lv (.long x.toInt64 :: r) h k n := rfl
theorem e_l2i : s_l2i P lv (.long xl :: r) h k n = P lv (.int xl.toInt32 :: r) h k n := rfl
theorem e_binL {f : Int64 → Int64 → Int64} : s_binL f P lv (.long yl :: .long xl :: r) h k n = P lv (.long (f xl yl) :: r) h k n := rfl
theorem e_lneg : s_lneg P lv (.long xl :: r) h k n = P lv (.long (-xl) :: r) h k n := rfl
theorem e_lcmp : s_lcmp P lv (.long yl :: .long xl :: r) h k n = P lv (.int (lg_cmp xl yl) :: r) h k n := rfl
theorem e_dup : s_dup P lv (v :: r) h k n = (v.category = 1 ∧ P lv (v :: v :: r) h k n) := rfl
theorem e_dup2 : s_dup2 P lv (v :: u :: r) h k n = (v.category = 1 ∧ u.category = 1 ∧ P lv (v :: u :: v :: u :: r) h k n) := rfl
theorem e_pop : s_pop P lv (v :: r) h k n = (v.category = 1 ∧ P lv r h k n) := rfl
theorem e_if1 : s_if1 q1 P P2 lv (.int x :: r) h k n = ((q1 x → P lv r h k n) ∧ (¬ q1 x → P2 lv r h k n)) := rfl
theorem e_if2 : s_if2 q2 P P2 lv (.int y :: .int x :: r) h k n = ((q2 x y → P lv r h k n) ∧ (¬ q2 x y → P2 lv r h k n)) := rfl
theorem e_ifnN : s_ifn P P2 lv (.null :: r) h k n = P lv r h k n := rfl
theorem e_ifnR : s_ifn P P2 lv (.ref a :: r) h k n = P2 lv r h k n := rfl
theorem e_sw {cs : List (Int32 × mh_PR)} : s_sw cs P lv (.int x :: r) h k n = sw_go x cs P lv r h k n := rfl
theorem e_sw0 : sw_go x [] P lv st h k n = P lv st h k n := rfl
theorem e_sw1 {cs : List (Int32 × mh_PR)} {c : Int32} : sw_go x ((c, P2) :: cs) P lv st h k n = ((x = c → P2 lv st h k n) ∧ (¬ x = c → sw_go x cs P lv st h k n)) := rfl
theorem e_gi : s_gi ci q P lv (.ref a :: r) h k n = (∃ (fs : List Value) (x : Int32), h.2 a = some (.inr (.inl (ci, fs))) ∧ fs[q]? = some (.int x) ∧ P lv (.int x :: r) h k n) := rfl
theorem e_gr : s_gr ci q P lv (.ref a :: r) h k n = (∃ (fs : List Value) (x : Nat), h.2 a = some (.inr (.inl (ci, fs))) ∧ fs[q]? = some (.ref x) ∧ P lv (.ref x :: r) h k n) := rfl
theorem e_pi : s_pi ci q P lv (.int x :: .ref a :: r) h k n = (∃ fs : List Value, h.2 a = some (.inr (.inl (ci, fs))) ∧ q < fs.length ∧ P lv r (mh_put h a (.inr (.inl (ci, fs.set q (.int x))))) k n) := rfl
theorem e_pz : s_pz ci q P lv (.int x :: .ref a :: r) h k n = ((x = 0 ∨ x = 1) ∧ ∃ fs : List Value, h.2 a = some (.inr (.inl (ci, fs))) ∧ q < fs.length ∧ P lv r (mh_put h a (.inr (.inl (ci, fs.set q (.int x))))) k n) := rfl
theorem e_pr : s_pr ci q P lv (.ref b :: .ref a :: r) h k n = (∃ fs : List Value, h.2 a = some (.inr (.inl (ci, fs))) ∧ q < fs.length ∧ P lv r (mh_put h a (.inr (.inl (ci, fs.set q (.ref b))))) k n) := rfl
theorem e_ald : s_ald kd P lv (.int x :: .ref a :: r) h k n = (∃ (n0 : Nat) (f : Nat → Int32), h.2 a = some (.inl (kd, n0, .inl f)) ∧ vp_in x n0 ∧ P lv (.int (f x.toNatClampNeg) :: r) h k n) := rfl
theorem e_lald : s_lald P lv (.int x :: .ref a :: r) h k n = (∃ (n0 : Nat) (f : Nat → Int64), h.2 a = some (.inl (3, n0, .inr (.inl f))) ∧ vp_in x n0 ∧ P lv (.long (f x.toNatClampNeg) :: r) h k n) := rfl
theorem e_aald : s_aald kd P lv (.int x :: .ref a :: r) h k n = (∃ (n0 : Nat) (f : Nat → Option Nat), h.2 a = some (.inl (kd, n0, .inr (.inr (.inr (.inr f))))) ∧ vp_in x n0 ∧ P lv (va_rf (f x.toNatClampNeg) :: r) h k n) := rfl
theorem e_tald : s_tald P lv (.int x :: .ref a :: r) h k n = (∃ (n0 : Nat) (f : Nat → Int32), h.2 a = some (.inr (.inr (n0, f))) ∧ vp_in x n0 ∧ P lv (.int (f x.toNatClampNeg) :: r) h k n) := rfl
theorem e_alen : s_alen P lv (.ref a :: r) h k n = (∃ q : Nat × vp_A, h.2 a = some (.inl q) ∧ P lv (.int (Int32.ofNat q.2.1) :: r) h k n) := rfl
theorem e_tlen : s_tlen P lv (.ref a :: r) h k n = (∃ q : Nat × (Nat → Int32), h.2 a = some (.inr (.inr q)) ∧ P lv (.int (Int32.ofNat q.1) :: r) h k n) := rfl
theorem e_ast : s_ast kd f1 P lv (.int y :: .int x :: .ref a :: r) h k n = (∃ (n0 : Nat) (f : Nat → Int32), h.2 a = some (.inl (kd, n0, .inl f)) ∧ vp_in x n0 ∧ P lv r (mh_put h a (.inl (kd, n0, .inl (upd f x.toNatClampNeg (f1 y))))) k n) := rfl
theorem e_last : s_last P lv (.long yl :: .int x :: .ref a :: r) h k n = (∃ (n0 : Nat) (f : Nat → Int64), h.2 a = some (.inl (3, n0, .inr (.inl f))) ∧ vp_in x n0 ∧ P lv r (mh_put h a (.inl (3, n0, .inr (.inl (vp_updL f x.toNatClampNeg yl))))) k n) := rfl
theorem e_aast : s_aast kd ci P lv (.ref b :: .int x :: .ref a :: r) h k n = (∃ (n0 : Nat) (f : Nat → Option Nat) (fs : List Value), h.2 a = some (.inl (kd, n0, .inr (.inr (.inr (.inr f))))) ∧ h.2 b = some (.inr (.inl (ci, fs))) ∧ vp_in x n0 ∧ P lv r (mh_put h a (.inl (kd, n0, .inr (.inr (.inr (.inr (va_up f x.toNatClampNeg (some b)))))))) k n) := rfl
theorem e_newa : s_newa X kd P lv (.int x :: r) h k n = (∃ N : Nat, x = nI N ∧ N ≤ 4096 ∧ k + 1 ≤ mh_mc X ∧ n + N ≤ mh_ms X ∧ P lv (.ref h.1 :: r) (mh_new h (.inl (kd, N, .inl (fun _ => 0)))) (k + 1) (n + N)) := rfl
theorem e_newl : s_newl X P lv (.int x :: r) h k n = (∃ N : Nat, x = nI N ∧ N ≤ 4096 ∧ k + 1 ≤ mh_mc X ∧ n + N ≤ mh_ms X ∧ P lv (.ref h.1 :: r) (mh_new h (.inl (3, N, .inr (.inl (fun _ => 0))))) (k + 1) (n + N)) := rfl
theorem e_newq : s_newq X kd P lv (.int x :: r) h k n = (∃ N : Nat, x = nI N ∧ N ≤ 4096 ∧ k + 1 ≤ mh_mc X ∧ n + N ≤ mh_ms X ∧ P lv (.ref h.1 :: r) (mh_new h (.inl (kd, N, .inr (.inr (.inr (.inr (fun _ => none))))))) (k + 1) (n + N)) := rfl
theorem e_new {fs : List Value} : s_new X ci N fs P lv st h k n = (k + 1 ≤ mh_mc X ∧ n + N ≤ mh_ms X ∧ P lv (.ref h.1 :: st) (mh_new h (.inr (.inl (ci, fs)))) (k + 1) (n + N)) := rfl
theorem e_oi : s_oi X P lv (.ref a :: r) h k n = (1 ≤ mh_d X ∧ r.length ≤ 4 ∧ P lv r h k n) := rfl
theorem e_cv {y : MethodName} : s_cv X y ci na P lv st h k n = mh_pop na [] st (fun As r => match r with
  | .ref a :: rest => (∃ fs : List Value, h.2 a = some (.inr (.inl (ci, fs)))) ∧ mh_cl X y (.ref a :: As) rest P lv [] h k n
  | _ => False) := rfl
theorem e_cvS {y : MethodName} : s_cvS X y na P lv st h k n = mh_pop na [] st (fun As r => match r with
  | .ref a :: rest => (∃ i : Nat, i < 11 ∧ a = mh_aK X.1 i) ∧ mh_cl X y (.ref a :: As) rest P lv [] h k n
  | _ => False) := rfl
theorem e_ci {y : MethodName} : s_ci X y na P lv st h k n = mh_pop na [] st (fun As r => match r with
  | .ref a :: rest => mh_cl X y (.ref a :: As) rest P lv [] h k n
  | _ => False) := rfl
theorem e_cs {y : MethodName} : s_cs X y na P lv st h k n = mh_pop na [] st (fun As rest => mh_cl X y As rest P lv [] h k n) := rfl
theorem e_pop0 {acc : List Value} {K : List Value → List Value → Prop} : mh_pop 0 acc st K = K acc st := rfl
theorem e_popS {acc : List Value} {K : List Value → List Value → Prop} {j : Nat} : mh_pop (j + 1) acc (v :: st) K = mh_pop j (v :: acc) st K := rfl
theorem e_iret : s_iret X lv [.int x] h k n = (mh_po X (some (.int x)) h ∧ k ≤ mh_mc X ∧ n ≤ mh_ms X) := rfl
theorem e_zret : s_zret X lv [.int x] h k n = ((x = 0 ∨ x = 1) ∧ mh_po X (some (.int x)) h ∧ k ≤ mh_mc X ∧ n ≤ mh_ms X) := rfl
theorem e_cret : s_cret X lv [.int x] h k n = ((∃ q : Nat, q < 65536 ∧ x = nI q) ∧ mh_po X (some (.int x)) h ∧ k ≤ mh_mc X ∧ n ≤ mh_ms X) := rfl
theorem e_bret : s_bret X lv [.int x] h k n = (x.toInt8.toInt32 = x ∧ mh_po X (some (.int x)) h ∧ k ≤ mh_mc X ∧ n ≤ mh_ms X) := rfl
theorem e_aret : s_aret X lv [.ref a] h k n = (mh_po X (some (.ref a)) h ∧ k ≤ mh_mc X ∧ n ≤ mh_ms X) := rfl
theorem e_aretN : s_aret X lv [.null] h k n = (mh_po X (some .null) h ∧ k ≤ mh_mc X ∧ n ≤ mh_ms X) := rfl
theorem e_vret : s_vret X lv [] h k n = (mh_po X none h ∧ k ≤ mh_mc X ∧ n ≤ mh_ms X) := rfl
theorem e_gs : s_gs X P lv st h k n = P lv (.ref X.1.2.2.2.2.1 :: st) h k n := rfl
theorem e_ac {z w : Int32} : s_ac X P lv (.int z :: .int w :: .ref b :: .int x :: .ref a :: r) h k n = (∃ (N0 N1 : Nat) (f g : Nat → Int32), h.2 a = some (.inl (0, N0, .inl f)) ∧ h.2 b = some (.inl (0, N1, .inl g)) ∧ ¬ x < 0 ∧ ¬ w < 0 ∧ ¬ z < 0 ∧ x.toNatClampNeg + z.toNatClampNeg ≤ N0 ∧ w.toNatClampNeg + z.toNatClampNeg ≤ N1 ∧ 1 ≤ mh_d X ∧ r.length ≤ 4 ∧ P lv r (mh_put h b (.inl (0, N1, .inl (va_cpy f g x.toNatClampNeg w.toNatClampNeg z.toNatClampNeg)))) k n) := rfl
theorem e_mm : s_mm X f2 P lv (.int y :: .int x :: r) h k n = (1 ≤ mh_d X ∧ r.length ≤ 4 ∧ k ≤ mh_mc X ∧ n ≤ mh_ms X ∧ P lv (.int (f2 x y) :: r) h k n) := rfl
theorem e_ma : s_ma X P lv (.int x :: r) h k n = (1 ≤ mh_d X ∧ r.length ≤ 4 ∧ k ≤ mh_mc X ∧ n ≤ mh_ms X ∧ P lv (.int (if 0 ≤ x then x else 0 - x) :: r) h k n) := rfl
theorem e_ldcs : s_ldcs X i P lv st h k n = P lv (.ref (mh_aK X.1 i) :: st) h k n := rfl
theorem e_gcs : s_gcs P lv st h k n = P lv (.int 1 :: st) h k n := rfl
theorem e_gfm : s_gfm X P lv st h k n = P lv (va_rf X.1.2.2.2.2.2.2.2 :: st) h k n := rfl
theorem e_gsV : s_gsV X P lv (.ref a :: r) h k n = (∃ i : Nat, i < 11 ∧ a = mh_aK X.1 i ∧ P lv (.ref (mh_aV X.1 i) :: r) h k n) := rfl
theorem e_gsC : s_gsC X P lv (.ref a :: r) h k n = (∃ i : Nat, i < 11 ∧ a = mh_aK X.1 i ∧ P lv (.int 0 :: r) h k n) := rfl
theorem e_bln : s_bln X P lv (.ref a :: r) h k n = (∃ i : Nat, i < 11 ∧ a = mh_aV X.1 i ∧ P lv (.int (Int32.ofNat (mh_len.getD i 0)) :: r) h k n) := rfl
theorem e_bld : s_bld X P lv (.int x :: .ref a :: r) h k n = (∃ i : Nat, i < 11 ∧ a = mh_aV X.1 i ∧ vp_in x (mh_len.getD i 0) ∧ P lv (.int ((mh_byt.getD i []).getD x.toNatClampNeg 0) :: r) h k n) := rfl
/-- a call by an exact contract that makes nothing -/
theorem mh_ex {y : MethodName} {As rest : List Value} {d' : Nat} {a : Option Value} {h1 : mh_H} (hM : mh_M X.1 d' 0 0 y As h (fun r h' => r = a ∧ h' = h1)) (hd : d' < mh_d X) (hk : k ≤ mh_mc X) (hn : n ≤ mh_ms X) (hr : (rest.map fun v => v.category).sum ≤ 8) (kk : P lv (a.toList ++ rest) h1 k n) : mh_cl X y As rest P lv st h k n :=
  ⟨d', 0, 0, _, hM, hd, hk, hn, hr, fun v h' hq => by obtain ⟨rfl, rfl⟩ := hq; exact kk⟩
/-- a call by a contract that tells more than one end -/
theorem mh_ez {y : MethodName} {As rest : List Value} {d' : Nat} {Q : Option Value → mh_H → Prop} (hM : mh_M X.1 d' 0 0 y As h Q) (hd : d' < mh_d X) (hk : k ≤ mh_mc X) (hn : n ≤ mh_ms X) (hr : (rest.map fun v => v.category).sum ≤ 8) (kk : ∀ v h', Q v h' → P lv (v.toList ++ rest) h' k n) : mh_cl X y As rest P lv st h k n :=
  ⟨d', 0, 0, _, hM, hd, hk, hn, hr, kk⟩
end EQS
theorem mh_M.mono {E : mh_E} {d mc ms : Nat} {y : MethodName} {As : List Value} {h : mh_H} {Q Q' : Option Value → mh_H → Prop} (hM : mh_M E d mc ms y As h Q) (hq : ∀ r h', Q r h' → Q' r h') : mh_M E d mc ms y As h Q' := by
  obtain ⟨cc, nL, ret, h1, h2, hMet⟩ := hM
  refine ⟨cc, nL, ret, h1, h2, ?_⟩
  intro p e ha hc hk s m args below hf happ hP hK
  obtain ⟨n, o, g1, g2, g3, ⟨v, h', g4, g5, g6⟩, g7⟩ := hMet p e ha hc hk s m args below hf happ hP hK
  exact ⟨n, o, g1, g2, g3, ⟨v, h', g4, hq v h' g5, g6⟩, g7⟩
