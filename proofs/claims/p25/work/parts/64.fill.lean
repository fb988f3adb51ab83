/-! ===== arrays of objects, and the loops that fill them ===== -/
section ZBA
variable {p : Program} {l : Launch} {e : Env} {R : Room} {s : State} {m : MethodId} {args : Array Value} {below : List Frame} {meth : Method} {c : Code} {D : va_G} {cy : Nat → ClassId} {A : Nat → Prop} {nL cells slots : Nat} {Q : State → Prop} {ws : va_W} {L : List (Option Value)} {pc : Nat} {st : List Value} {cc : ByteArray} {own : String} {ret : Option FieldType}
theorem b_anew (C : Bx p s m args meth c cc own nL ret D cy A) (k : Nat) {Cn : String} (hk : (tysL cy)[k]? = some (cy k, .object Cn)) (ho : Cn ∈ overs) {idx : Nat} (hw : Cond.classLink own idx Cn ∈ BIG) {n : Int32} {N' : Nat} (hn : ¬ n < 0) (hN : n.toNatClampNeg = N') (hbytes : N' * 4 ≤ 536870912) (hc : cells + 1 ≤ R.cells ∧ slots + N' ≤ R.slots) (hdg : decode cc pc = .ok (.anewarray idx, 3)) (kk : ∀ q : Nat, ZB p l e R s m args below meth c D A nL (cells + 1) (slots + N') Q (ws ++ [(q, qref N' (cy k) (fun _ => none))]) L (pc + 3) (.ref q :: st)) : ZB p l e R s m args below meth c D A nL cells slots Q ws L pc (.int n :: st) := by
  intro H locs ls hP hD hS hl
  obtain ⟨hx, hb, hml, hown, hts, hr, hlk, hF, hA⟩ := C
  refine va_newq hx hb hown (hts _ hw) (hF.2.2.1 _ ho) hF.1 hP hD hS hA hn hN hbytes hc.1 hc.2 hdg (fun q cA H1 hK1 hP1 hD1 hS1 => ?_)
  obtain ⟨-, -, -, -, -, e1⟩ := (hF.1.2 k _ hk).2
  obtain ⟨-, -, -, -, -, e2⟩ := (hK1.2 8 _ rfl).2
  obtain rfl : cy k = cA := Option.some.inj (e1.symm.trans e2)
  exact kk q H1 locs ls hP1 hD1 hS1 hl
theorem b_aast (C : Bx p s m args meth c cc own nL ret D cy A) (q0 t0 qk ci : Nat) {a : Nat} {r : vw_C} {n v : Nat} {vs : List Value} {f : Nat → Option Nat} (ha : ws[q0]? = some (a, qref n (cy t0) f)) (ht : (tysL cy)[t0]? = some (cy t0, .object r.1)) (hv : ws[qk]? = some (v, .inr (ci, vs))) (hc : vwCl[ci]? = some r) {i : Int32} (hin : vp_in i n) (hdg : decode cc pc = .ok (.aastore, 1)) (kk : ZB p l e R s m args below meth c D A nL cells slots Q (ws.set q0 (a, qref n (cy t0) (va_up f i.toNatClampNeg (some v)))) L (pc + 1) st) : ZB p l e R s m args below meth c D A nL cells slots Q ws L pc (.ref v :: .int i :: .ref a :: st) := by
  intro H locs ls hP hD hS hl
  obtain ⟨hx, hb, hml, hown, hts, hr, hlk, hF, hA⟩ := C
  exact va_astq hx hb hF.1 hP hD hS q0 t0 qk ci ha ht hv hc hin hdg (fun H1 locs1 hP1 hD1 hS1 => kk H1 locs1 ls hP1 hD1 hS1 hl)
end ZBA
theorem b_eq {p : Program} {l : Launch} {e : Env} {R : Room} {s : State} {m : MethodId} {args : Array Value} {below : List Frame} {meth : Method} {c : Code} {D : va_G} {A : Nat → Prop} {nL cells slots : Nat} {Q : State → Prop} {ws ws' : va_W} {L : List (Option Value)} {pc : Nat} {st : List Value} (h : ws = ws') (k : ZB p l e R s m args below meth c D A nL cells slots Q ws' L pc st) : ZB p l e R s m args below meth c D A nL cells slots Q ws L pc st := by
  rw [h]
  exact k
/-- the first i things of a kind, each with what it holds -/
def fl (U : Nat → Nat → va_W) (a b : Nat → Nat) : Nat → va_W
  | 0 => []
  | i + 1 => fl U a b i ++ U (a i) (b i)
theorem fl_congr {U : Nat → Nat → va_W} {a b a' b' : Nat → Nat} : ∀ i : Nat, (∀ j, j < i → a j = a' j ∧ b j = b' j) → fl U a b i = fl U a' b' i
  | 0, _ => rfl
  | i + 1, h => by
    show fl U a b i ++ U (a i) (b i) = fl U a' b' i ++ U (a' i) (b' i)
    rw [fl_congr i (fun j hj => h j (by omega)), (h i (by omega)).1, (h i (by omega)).2]
theorem fl_step {U : Nat → Nat → va_W} {a b : Nat → Nat} {i x y : Nat} {rest : va_W} : (rest ++ fl U a b i) ++ U x y = rest ++ fl U (va_up a i x) (va_up b i y) (i + 1) := by
  show _ = rest ++ (fl U (va_up a i x) (va_up b i y) i ++ U (va_up a i x i) (va_up b i y i))
  rw [List.append_assoc, fl_congr (a := a) (b := b) (a' := va_up a i x) (b' := va_up b i y) i (fun j hj => ⟨by unfold va_up; rw [if_neg (by omega)], by unfold va_up; rw [if_neg (by omega)]⟩)]
  congr 3
  · unfold va_up; rw [if_pos rfl]
  · unfold va_up; rw [if_pos rfl]
def qf (a : Nat → Nat) (i : Nat) : Nat → Option Nat := fun j => if j < i then some (a j) else none
theorem qf_step {a : Nat → Nat} {i x : Nat} : va_up (qf a i) i (some x) = qf (va_up a i x) (i + 1) := by
  funext j
  unfold va_up qf
  by_cases h : j = i
  · rw [if_pos h, if_pos (by omega)]; show some x = some (if j = i then x else a j); rw [if_pos h]
  · by_cases h2 : j < i
    · rw [if_neg h, if_pos h2, if_pos (by omega)]; show some (a j) = some (if j = i then x else a j); rw [if_neg h]
    · rw [if_neg h, if_neg h2, if_neg (by omega)]
theorem ok_init : ∀ y ∈ [yX0_init, yX1_init, yX2_init, yX3_init, yX4_init, yX5_init], y.cls ≠ "java/lang/invoke/MethodHandle" ∧ y.cls ≠ "java/lang/invoke/VarHandle" ∧ (parseMethodDescriptor y.desc).map (fun d => d.parameters.length) = some 0 := by decide +kernel
def U_X3 (cy : Nat → ClassId) : Nat → Nat → va_W := fun a b => [(a, .inr (3, [.ref b, .int 0])), (b, .inl (cy 0, 16, .inl (fun _ => 0)))]
def U_X1 (cy : Nat → ClassId) : Nat → Nat → va_W := fun a b => [(a, .inr (1, [.ref b, .int 0, .int 4])), (b, .inl (cy 0, 4, .inl (fun _ => 0)))]
def U_X4 (cy : Nat → ClassId) : Nat → Nat → va_W := fun a _ => [(a, .inr (4, [.int 2, .int 0]))]
def U_X2 (cy : Nat → ClassId) : Nat → Nat → va_W := fun a _ => [(a, .inr (2, [.int 0, .int 4, .int 0, .int 0]))]
set_option maxRecDepth 100000 in
set_option maxHeartbeats 4000000 in
theorem fill_X3 {p : Program} {l : Launch} {e : Env} {R : Room} {s : State} {m : MethodId} {args : Array Value} {below : List Frame} {meth : Method} {c : Code} {D : va_G} {cy : Nat → ClassId} {A : Nat → Prop} {cells slots : Nat} {Q : State → Prop} (C : Bx p s m args meth c cX5_init "FretSchool" 2 none D cy A) {q arr : Nat} {fs : List Value} (hfs : fs[0]? = some (.ref arr)) {rest : va_W} (hR : 4 ≤ R.frames ∧ 140 ≤ R.locals) (hc : cells + 8 * 2 ≤ R.cells ∧ slots + 8 * 18 ≤ R.slots) (kk : ∀ (a b : Nat → Nat) (v : Value), ZB p l e R s m args below meth c D A 2 (cells + 8 * 2) (slots + 8 * 18) Q ((q, .inr (5, fs)) :: (arr, qref 8 (cy 3) (qf a 8)) :: (rest ++ fl (U_X3 cy) a b 8)) [some (.ref q), some v] 40 []) : ∀ k i : Nat, i + k = 8 → ∀ a b : Nat → Nat, ZB p l e R s m args below meth c D A 2 (cells + i * 2) (slots + i * 18) Q ((q, .inr (5, fs)) :: (arr, qref 8 (cy 3) (qf a i)) :: (rest ++ fl (U_X3 cy) a b i)) [some (.ref q), some (.int (nI i))] 15 [] := by
  intro k
  induction k with
  | zero =>
    intro i hi a b
    obtain rfl : i = 8 := by omega
    refine b_iload_n C dX5_init_15 rfl ?_
    refine b_bipush C (v := 8) dX5_init_16 (by decide) ?_
    exact b_icmp_ge C 40 dX5_init_18 (by decide) (fun _ => kk a b _) (fun h => absurd (nI_le (Nat.le_refl 8) (by decide)) h)
  | succ k ih =>
    intro i hi a b
    refine b_iload_n C dX5_init_15 rfl ?_
    refine b_bipush C (v := 8) dX5_init_16 (by decide) ?_
    refine b_icmp_ge C 40 dX5_init_18 (by decide) (fun h => absurd ((nI_leI (a := 8) (b := i) (by decide) (by omega)).mp h) (by omega)) (fun _ => ?_)
    refine b_aload_n C dX5_init_21 rfl ?_
    refine b_get C 0 0 rfl rfl (by decide) inB5 wd140 rfl hfs dX5_init_22 ?_
    refine b_iload_n C dX5_init_25 rfl ?_
    refine b_makeN C (ci := 3) rfl inB3 tyX3_ok (fun j hj => by rcases (show j = 0 ∨ j = 1 by omega) with rfl | rfl <;> rfl) wd35 wd37 wd15 k_X3 wd40 rfl (C.2.2.2.2.2.2.2.1.2.1 (15, yX3_init) (List.mem_of_getElem? (i := 0) rfl)) wd39 rfl (ok_init _ (List.mem_of_getElem? (i := 3) rfl)) ⟨by omega, by omega⟩ ⟨by omega, by omega⟩ (Nat.le_of_ble_eq_true rfl) dX5_init_26 dX5_init_29 dX5_init_30 (fun x u hu => ?_)
    obtain ⟨y, rfl⟩ := hu
    refine b_aast C 1 3 ((q, (.inr (5, fs) : va_E)) :: (arr, qref 8 (cy 3) (qf a i)) :: (rest ++ fl (U_X3 cy) a b i)).length 3 (n := 8) (vs := [.ref y, .int 0]) rfl rfl (by rw [List.getElem?_append_right (Nat.le_refl _), Nat.sub_self]; rfl) rfl (nI_in (by omega) (by decide)) dX5_init_33 ?_
    refine b_eq (ws' := (q, .inr (5, fs)) :: (arr, qref 8 (cy 3) (va_up (qf a i) (nI i).toNatClampNeg (some x))) :: ((rest ++ fl (U_X3 cy) a b i) ++ U_X3 cy x y)) rfl ?_
    rw [nI_clamp (by omega), qf_step, fl_step]
    refine b_iinc C (v := 1) dX5_init_34 rfl (by decide) (by decide) ?_
    dsimp only [List.set]
    refine b_goto C 15 dX5_init_37 (by decide) ?_
    rw [nI_1]
    exact b_widen (by omega) (by omega) (ih (i + 1) (by omega) (va_up a i x) (va_up b i y))

set_option maxRecDepth 100000 in
set_option maxHeartbeats 4000000 in
theorem fill_X1 {p : Program} {l : Launch} {e : Env} {R : Room} {s : State} {m : MethodId} {args : Array Value} {below : List Frame} {meth : Method} {c : Code} {D : va_G} {cy : Nat → ClassId} {A : Nat → Prop} {cells slots : Nat} {Q : State → Prop} (C : Bx p s m args meth c cX5_init "FretSchool" 2 none D cy A) {q arr : Nat} {fs : List Value} (hfs : fs[1]? = some (.ref arr)) {rest : va_W} (hR : 4 ≤ R.frames ∧ 140 ≤ R.locals) (hc : cells + 8 * 2 ≤ R.cells ∧ slots + 8 * 7 ≤ R.slots) (kk : ∀ (a b : Nat → Nat) (v : Value), ZB p l e R s m args below meth c D A 2 (cells + 8 * 2) (slots + 8 * 7) Q ((q, .inr (5, fs)) :: (arr, qref 8 (cy 4) (qf a 8)) :: (rest ++ fl (U_X1 cy) a b 8)) [some (.ref q), some v] 76 []) : ∀ k i : Nat, i + k = 8 → ∀ a b : Nat → Nat, ZB p l e R s m args below meth c D A 2 (cells + i * 2) (slots + i * 7) Q ((q, .inr (5, fs)) :: (arr, qref 8 (cy 4) (qf a i)) :: (rest ++ fl (U_X1 cy) a b i)) [some (.ref q), some (.int (nI i))] 51 [] := by
  intro k
  induction k with
  | zero =>
    intro i hi a b
    obtain rfl : i = 8 := by omega
    refine b_iload_n C dX5_init_51 rfl ?_
    refine b_bipush C (v := 8) dX5_init_52 (by decide) ?_
    exact b_icmp_ge C 76 dX5_init_54 (by decide) (fun _ => kk a b _) (fun h => absurd (nI_le (Nat.le_refl 8) (by decide)) h)
  | succ k ih =>
    intro i hi a b
    refine b_iload_n C dX5_init_51 rfl ?_
    refine b_bipush C (v := 8) dX5_init_52 (by decide) ?_
    refine b_icmp_ge C 76 dX5_init_54 (by decide) (fun h => absurd ((nI_leI (a := 8) (b := i) (by decide) (by omega)).mp h) (by omega)) (fun _ => ?_)
    refine b_aload_n C dX5_init_57 rfl ?_
    refine b_get C 0 1 rfl rfl (by decide) inB5 wd141 rfl hfs dX5_init_58 ?_
    refine b_iload_n C dX5_init_61 rfl ?_
    refine b_makeN C (ci := 1) rfl inB1 tyX1_ok (fun j hj => by rcases (show j = 0 ∨ j = 1 ∨ j = 2 by omega) with rfl | rfl | rfl <;> rfl) wd54 wd56 wd16 k_X1 wd59 rfl (C.2.2.2.2.2.2.2.1.2.1 (22, yX1_init) (List.mem_of_getElem? (i := 1) rfl)) wd58 rfl (ok_init _ (List.mem_of_getElem? (i := 1) rfl)) ⟨by omega, by omega⟩ ⟨by omega, by omega⟩ (Nat.le_of_ble_eq_true rfl) dX5_init_62 dX5_init_65 dX5_init_66 (fun x u hu => ?_)
    obtain ⟨y, rfl⟩ := hu
    refine b_aast C 1 4 ((q, (.inr (5, fs) : va_E)) :: (arr, qref 8 (cy 4) (qf a i)) :: (rest ++ fl (U_X1 cy) a b i)).length 1 (n := 8) (vs := [.ref y, .int 0, .int 4]) rfl rfl (by rw [List.getElem?_append_right (Nat.le_refl _), Nat.sub_self]; rfl) rfl (nI_in (by omega) (by decide)) dX5_init_69 ?_
    refine b_eq (ws' := (q, .inr (5, fs)) :: (arr, qref 8 (cy 4) (va_up (qf a i) (nI i).toNatClampNeg (some x))) :: ((rest ++ fl (U_X1 cy) a b i) ++ U_X1 cy x y)) rfl ?_
    rw [nI_clamp (by omega), qf_step, fl_step]
    refine b_iinc C (v := 1) dX5_init_70 rfl (by decide) (by decide) ?_
    dsimp only [List.set]
    refine b_goto C 51 dX5_init_73 (by decide) ?_
    rw [nI_1]
    exact b_widen (by omega) (by omega) (ih (i + 1) (by omega) (va_up a i x) (va_up b i y))

set_option maxRecDepth 100000 in
set_option maxHeartbeats 4000000 in
theorem fill_X4 {p : Program} {l : Launch} {e : Env} {R : Room} {s : State} {m : MethodId} {args : Array Value} {below : List Frame} {meth : Method} {c : Code} {D : va_G} {cy : Nat → ClassId} {A : Nat → Prop} {cells slots : Nat} {Q : State → Prop} (C : Bx p s m args meth c cX5_init "FretSchool" 2 none D cy A) {q arr : Nat} {fs : List Value} (hfs : fs[2]? = some (.ref arr)) {rest : va_W} (hR : 4 ≤ R.frames ∧ 140 ≤ R.locals) (hc : cells + 5 * 1 ≤ R.cells ∧ slots + 5 * 2 ≤ R.slots) (kk : ∀ (a b : Nat → Nat) (v : Value), ZB p l e R s m args below meth c D A 2 (cells + 5 * 1) (slots + 5 * 2) Q ((q, .inr (5, fs)) :: (arr, qref 5 (cy 5) (qf a 5)) :: (rest ++ fl (U_X4 cy) a b 5)) [some (.ref q), some v] 110 []) : ∀ k i : Nat, i + k = 5 → ∀ a b : Nat → Nat, ZB p l e R s m args below meth c D A 2 (cells + i * 1) (slots + i * 2) Q ((q, .inr (5, fs)) :: (arr, qref 5 (cy 5) (qf a i)) :: (rest ++ fl (U_X4 cy) a b i)) [some (.ref q), some (.int (nI i))] 86 [] := by
  intro k
  induction k with
  | zero =>
    intro i hi a b
    obtain rfl : i = 5 := by omega
    refine b_iload_n C dX5_init_86 rfl ?_
    refine b_iconst C (v := 5) dX5_init_87 (by decide) ?_
    exact b_icmp_ge C 110 dX5_init_88 (by decide) (fun _ => kk a b _) (fun h => absurd (nI_le (Nat.le_refl 5) (by decide)) h)
  | succ k ih =>
    intro i hi a b
    refine b_iload_n C dX5_init_86 rfl ?_
    refine b_iconst C (v := 5) dX5_init_87 (by decide) ?_
    refine b_icmp_ge C 110 dX5_init_88 (by decide) (fun h => absurd ((nI_leI (a := 5) (b := i) (by decide) (by omega)).mp h) (by omega)) (fun _ => ?_)
    refine b_aload_n C dX5_init_91 rfl ?_
    refine b_get C 0 2 rfl rfl (by decide) inB5 wd142 rfl hfs dX5_init_92 ?_
    refine b_iload_n C dX5_init_95 rfl ?_
    refine b_makeN C (ci := 4) rfl inB4 tyX4_ok (fun j hj => by rcases (show j = 0 ∨ j = 1 by omega) with rfl | rfl <;> rfl) wd73 wd75 wd17 k_X4 wd78 rfl (C.2.2.2.2.2.2.2.1.2.1 (29, yX4_init) (List.mem_of_getElem? (i := 2) rfl)) wd77 rfl (ok_init _ (List.mem_of_getElem? (i := 4) rfl)) ⟨by omega, by omega⟩ ⟨by omega, by omega⟩ (Nat.le_of_ble_eq_true rfl) dX5_init_96 dX5_init_99 dX5_init_100 (fun x u hu => ?_)
    subst hu
    refine b_aast C 1 5 ((q, (.inr (5, fs) : va_E)) :: (arr, qref 5 (cy 5) (qf a i)) :: (rest ++ fl (U_X4 cy) a b i)).length 4 (n := 5) (vs := [.int 2, .int 0]) rfl rfl (by rw [List.getElem?_append_right (Nat.le_refl _), Nat.sub_self]; rfl) rfl (nI_in (by omega) (by decide)) dX5_init_103 ?_
    refine b_eq (ws' := (q, .inr (5, fs)) :: (arr, qref 5 (cy 5) (va_up (qf a i) (nI i).toNatClampNeg (some x))) :: ((rest ++ fl (U_X4 cy) a b i) ++ U_X4 cy x 0)) rfl ?_
    rw [nI_clamp (by omega), qf_step, fl_step]
    refine b_iinc C (v := 1) dX5_init_104 rfl (by decide) (by decide) ?_
    dsimp only [List.set]
    refine b_goto C 86 dX5_init_107 (by decide) ?_
    rw [nI_1]
    exact b_widen (by omega) (by omega) (ih (i + 1) (by omega) (va_up a i x) (va_up b i 0))

set_option maxRecDepth 100000 in
set_option maxHeartbeats 4000000 in
theorem fill_X2 {p : Program} {l : Launch} {e : Env} {R : Room} {s : State} {m : MethodId} {args : Array Value} {below : List Frame} {meth : Method} {c : Code} {D : va_G} {cy : Nat → ClassId} {A : Nat → Prop} {cells slots : Nat} {Q : State → Prop} (C : Bx p s m args meth c cX5_init "FretSchool" 2 none D cy A) {q arr : Nat} {fs : List Value} (hfs : fs[3]? = some (.ref arr)) {rest : va_W} (hR : 4 ≤ R.frames ∧ 140 ≤ R.locals) (hc : cells + 20 * 1 ≤ R.cells ∧ slots + 20 * 4 ≤ R.slots) (kk : ∀ (a b : Nat → Nat) (v : Value), ZB p l e R s m args below meth c D A 2 (cells + 20 * 1) (slots + 20 * 4) Q ((q, .inr (5, fs)) :: (arr, qref 20 (cy 6) (qf a 20)) :: (rest ++ fl (U_X2 cy) a b 20)) [some (.ref q), some v] 146 []) : ∀ k i : Nat, i + k = 20 → ∀ a b : Nat → Nat, ZB p l e R s m args below meth c D A 2 (cells + i * 1) (slots + i * 4) Q ((q, .inr (5, fs)) :: (arr, qref 20 (cy 6) (qf a i)) :: (rest ++ fl (U_X2 cy) a b i)) [some (.ref q), some (.int (nI i))] 121 [] := by
  intro k
  induction k with
  | zero =>
    intro i hi a b
    obtain rfl : i = 20 := by omega
    refine b_iload_n C dX5_init_121 rfl ?_
    refine b_bipush C (v := 20) dX5_init_122 (by decide) ?_
    exact b_icmp_ge C 146 dX5_init_124 (by decide) (fun _ => kk a b _) (fun h => absurd (nI_le (Nat.le_refl 20) (by decide)) h)
  | succ k ih =>
    intro i hi a b
    refine b_iload_n C dX5_init_121 rfl ?_
    refine b_bipush C (v := 20) dX5_init_122 (by decide) ?_
    refine b_icmp_ge C 146 dX5_init_124 (by decide) (fun h => absurd ((nI_leI (a := 20) (b := i) (by decide) (by omega)).mp h) (by omega)) (fun _ => ?_)
    refine b_aload_n C dX5_init_127 rfl ?_
    refine b_get C 0 3 rfl rfl (by decide) inB5 wd143 rfl hfs dX5_init_128 ?_
    refine b_iload_n C dX5_init_131 rfl ?_
    refine b_makeN C (ci := 2) rfl inB2 tyX2_ok (fun j hj => by rcases (show j = 0 ∨ j = 1 ∨ j = 2 ∨ j = 3 by omega) with rfl | rfl | rfl | rfl <;> rfl) wd89 wd91 wd18 k_X2 wd94 rfl (C.2.2.2.2.2.2.2.1.2.1 (36, yX2_init) (List.mem_of_getElem? (i := 3) rfl)) wd93 rfl (ok_init _ (List.mem_of_getElem? (i := 2) rfl)) ⟨by omega, by omega⟩ ⟨by omega, by omega⟩ (Nat.le_of_ble_eq_true rfl) dX5_init_132 dX5_init_135 dX5_init_136 (fun x u hu => ?_)
    subst hu
    refine b_aast C 1 6 ((q, (.inr (5, fs) : va_E)) :: (arr, qref 20 (cy 6) (qf a i)) :: (rest ++ fl (U_X2 cy) a b i)).length 2 (n := 20) (vs := [.int 0, .int 4, .int 0, .int 0]) rfl rfl (by rw [List.getElem?_append_right (Nat.le_refl _), Nat.sub_self]; rfl) rfl (nI_in (by omega) (by decide)) dX5_init_139 ?_
    refine b_eq (ws' := (q, .inr (5, fs)) :: (arr, qref 20 (cy 6) (va_up (qf a i) (nI i).toNatClampNeg (some x))) :: ((rest ++ fl (U_X2 cy) a b i) ++ U_X2 cy x 0)) rfl ?_
    rw [nI_clamp (by omega), qf_step, fl_step]
    refine b_iinc C (v := 1) dX5_init_140 rfl (by decide) (by decide) ?_
    dsimp only [List.set]
    refine b_goto C 121 dX5_init_143 (by decide) ?_
    rw [nI_1]
    exact b_widen (by omega) (by omega) (ih (i + 1) (by omega) (va_up a i x) (va_up b i 0))

