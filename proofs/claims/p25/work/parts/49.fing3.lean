/-! ===== fingers: its two arrays; its contract ===== -/
def adN (ad : Nat → Nat → Nat) (k0 v n0 : Nat) : Nat → Nat → Nat := fun k i => if k = k0 then v else if k = 99 then n0 else ad k i
def zs (σ : St) (k0 : Nat) : St := fun a => if a = k0 then fun _ _ => 0 else σ a
theorem adN_lt {ad : Nat → Nat → Nat} {k0 v n0 k : Nat} (h : k < k0) (h2 : k < 99) : adN ad k0 v n0 k = ad k := by
  funext i
  unfold adN
  rw [if_neg (by omega), if_neg (by omega)]
theorem cf_cong {ad ad' : Nat → Nat → Nat} {cy : Nat → ClassId} {k i : Nat} {g : Nat → Int32} (e : ∀ a, a < 23 → ad' a = ad a) : cf ad' cy k i g = cf ad cy k i g := by
  have h1 := e 1 (by decide)
  have h2 := e 2 (by decide)
  have h3 := e 3 (by decide)
  have h4 := e 4 (by decide)
  have h5 := e 5 (by decide)
  have h6 := e 6 (by decide)
  have h7 := e 7 (by decide)
  have h8 := e 8 (by decide)
  have h9 := e 9 (by decide)
  have h10 := e 10 (by decide)
  have h11 := e 11 (by decide)
  have h12 := e 12 (by decide)
  have h13 := e 13 (by decide)
  have h14 := e 14 (by decide)
  have h15 := e 15 (by decide)
  have h16 := e 16 (by decide)
  unfold cf
  simp only [h1, h2, h3, h4, h5, h6, h7, h8, h9, h10, h11, h12, h13, h14, h15, h16]
theorem WLg_cong {I : List (Nat × Nat)} {ad ad' : Nat → Nat → Nat} {cy : Nat → ClassId} {σ σ' : St} (e : ∀ a, a < 23 → ad' a = ad a) (h : ∀ x ∈ I, ad' x.1 x.2 = ad x.1 x.2 ∧ σ' x.1 x.2 = σ x.1 x.2) : WLg I ad' cy σ' = WLg I ad cy σ := by
  unfold WLg
  refine List.map_congr_left fun x hx => ?_
  rw [(h x hx).1, (h x hx).2, cf_cong e]
theorem WL_add {ad : Nat → Nat → Nat} {cy : Nat → ClassId} {σ : St} {k0 v n0 : Nat} (hk : k0 = 23 ∨ k0 = 24) (hI : IX (adN ad k0 v n0) = IX ad ++ [(k0, 0)]) (hlt : ∀ x ∈ IX ad, x.1 < k0) : WL (adN ad k0 v n0) cy (zs σ k0) = WL ad cy σ ++ [(v, .inl (cy 0, 14, .inl (fun _ => 0)))] := by
  have e : ∀ a, a < 23 → adN ad k0 v n0 a = ad a := fun a ha => adN_lt (by omega) (by omega)
  have h1 : WL (adN ad k0 v n0) cy (zs σ k0) = WLg (IX ad) (adN ad k0 v n0) cy (zs σ k0) ++ WLg [(k0, 0)] (adN ad k0 v n0) cy (zs σ k0) := by
    unfold WL WLg
    rw [hI, List.map_append]
  rw [h1, WLg_cong (ad := ad) (σ := σ) e (fun x hx => by
    have := hlt x hx
    refine ⟨by rw [adN_lt (by omega) (by omega)], ?_⟩
    unfold zs
    rw [if_neg (by omega)])]
  rcases hk with rfl | rfl <;> rfl
theorem Apart.ofD {ad : Nat → Nat → Nat} {A : Nat → Prop} {cy : Nat → ClassId} {σ : St} (h : va_D A (WL ad cy σ)) : Apart ad A := by
  refine ⟨fun x hx y hy e => ?_, fun x hx => ?_⟩
  · obtain ⟨i, hi⟩ := IX_at (ad := ad) (k := x.1) (i := x.2) hx
    obtain ⟨j, hj⟩ := IX_at (ad := ad) (k := y.1) (i := y.2) hy
    have hij := h.1 i j _ _ (WL_at (cy := cy) (σ := σ) hi) (WL_at (cy := cy) (σ := σ) hj) e
    subst hij
    exact Option.some.inj (hi.symm.trans hj)
  · obtain ⟨i, hi⟩ := IX_at (ad := ad) (k := x.1) (i := x.2) hx
    exact h.2 i _ (WL_at (cy := cy) (σ := σ) hi)
theorem IX_1 {ad : Nat → Nat → Nat} {v : Nat} (h : ad 99 0 = 0) : IX (adN ad 23 v 1) = IX ad ++ [(23, 0)] := by
  unfold IX
  rw [h, show adN ad 23 v 1 99 0 = 1 from rfl]
  show IXb ++ [(23, 0)] = IXb ++ [] ++ [(23, 0)]
  rw [List.append_nil]
theorem IX_2 {ad : Nat → Nat → Nat} {v v' : Nat} : IX (adN (adN ad 23 v 1) 24 v' 2) = IX (adN ad 23 v 1) ++ [(24, 0)] := by
  unfold IX
  show IXb ++ [(23, 0), (24, 0)] = IXb ++ [(23, 0)] ++ [(24, 0)]
  rw [List.append_assoc]
  rfl
theorem IX_lt0 {ad : Nat → Nat → Nat} (h : ad 99 0 = 0) : ∀ x ∈ IX ad, x.1 < 23 := by
  unfold IX
  rw [h]
  show ∀ x ∈ IXb ++ [], x.1 < 23
  rw [List.append_nil]
  exact fun x hx => (IXb_of hx).1
theorem IX_lt1 {ad : Nat → Nat → Nat} {v : Nat} (h : ad 99 0 = 0) : ∀ x ∈ IX (adN ad 23 v 1), x.1 < 24 := by
  rw [IX_1 h]
  intro x hx
  rcases List.mem_append.mp hx with hx | hx
  · have := IX_lt0 h x hx; omega
  · rw [List.mem_singleton.mp hx]; decide
section ZL
variable {p : Program} {l : Launch} {e : Env} {R : Room} {s : State} {m : MethodId} {args : Array Value} {below : List Frame} {meth : Method} {c : Code} {D : va_G} {ad : Nat → Nat → Nat} {cy : Nat → ClassId} {A : Nat → Prop} {sa : Nat → Nat} {nL cells slots : Nat} {Q : State → Prop} {σ : St} {L : List (Option Value)} {pc : Nat} {st stk : List Value} {cc : ByteArray} {own : String} {ret : Option FieldType}
theorem z_newa (C : Cx p l s m args meth c cc own nL ret D ad cy A sa) {k0 n0 : Nat} (hk : k0 = 23 ∨ k0 = 24) (hI : ∀ v, IX (adN ad k0 v n0) = IX ad ++ [(k0, 0)]) (hlt : ∀ x ∈ IX ad, x.1 < k0) (hc : cells + 1 ≤ R.cells ∧ slots + 14 ≤ R.slots) (hdg : decode cc pc = .ok (.newarray .int, 2)) (kk : ∀ v, Cx p l s m args meth c cc own nL ret D (adN ad k0 v n0) cy A sa → Z p l e R s m args below meth c D (adN ad k0 v n0) cy A nL (cells + 1) (slots + 14) Q (zs σ k0) L (pc + 2) (.ref v :: st)) : Z p l e R s m args below meth c D ad cy A nL cells slots Q σ L pc (.int 14 :: st) := by
  intro H locs ls hP hS hl
  obtain ⟨hx, hb, hml, hown, hts, hr, hlk, hF⟩ := id C
  refine va_newa (atype := .int) (ty := .int) (a0 := (14, .inl (fun _ => 0))) hx hb (hts _ wd53) rfl hF.2.1 hP (hF.2.2.1.D cy σ) hS hF.2.2.2.1 (fun cA => rfl) (by decide) (by decide) (by decide) hc.1 hc.2 hdg (fun q cA H1 hK1 hP1 hD1 hS1 => ?_)
  obtain rfl : cy 0 = cA := Option.some.inj ((hF.2.1.2 0 _ rfl).2.symm.trans (hK1.2 8 _ rfl).2)
  have eW := WL_add (cy := cy) (σ := σ) (v := q) hk (hI q) hlt
  rw [← eW] at hP1 hD1
  exact kk q ⟨hx, hb, hml, hown, hts, hr, hlk, hF.1, hF.2.1, Apart.ofD hD1, hF.2.2.2⟩ H1 locs ls hP1 hS1 hl
end ZL
section
variable {p : Program} {l : Launch} {e : Env} {R : Room} {s : State} {m : MethodId} {args : Array Value} {below : List Frame} {meth : Method} {c : Code} {D : va_G} {ad : Nat → Nat → Nat} {cy : Nat → ClassId} {A : Nat → Prop} {sa : Nat → Nat} {cells slots : Nat} {σ : St}
set_option maxRecDepth 100000 in
set_option maxHeartbeats 4000000 in
theorem lp_f12 (C : Cx p l s m args meth c cL_fingers "FretSchoolLaw" 18 (some .boolean) D ad cy A sa) {T : Nat} {σ : St} {np ni j q w f0 hi n : Nat} {P : Nat → Nat → Bool} (F : FAC ad T σ np ni j q w f0 hi n P) {Q : State → Prop} (kret : ∀ (τ : St) (L : List (Option Value)) (cells slots : Nat), SameL σ τ → cells ≤ 300 → slots ≤ 6 * 300 → Z p l e (rmD 10 300) s m args below meth c D ad cy A 18 cells slots Q τ L 570 [.int 1]) {o8 o9 o10 o11 o12 o13 o14 o15 o16 o17 : Option Value} : Z p l e (rmD 10 300) s m args below meth c D ad cy A 18 2 28 Q σ [some (.ref (ad 0 0)), some (.ref (ad 17 0)), some (.ref (ad 18 0)), some (.ref (ad 19 0)), some (.int (nI j)), some (.int (nI q)), some (.ref (ad 23 0)), some (.ref (ad 24 0)), o8, o9, o10, o11, o12, o13, o14, o15, o16, o17] 12 [] := by
  obtain ⟨hI, enp, hnp, eni, hni, hj, hq, h23, h24, ef, hw, hf, hhi, hhi1, em, en, hn, hP, ePF, ecN⟩ := id F
  refine z_aload_n C dL_fingers_12 rfl ?_
  refine z_iload C dL_fingers_13 rfl ?_
  refine a_19 C (j := q) rfl (by omega) dL_fingers_15 ?_
  refine z_bipush C (v := 32) dL_fingers_16 (by decide) ?_
  refine z_irem C (by decide) dL_fingers_18 ?_
  rw [ef, rem32 (by omega) (by omega)]
  refine z_iconst C (v := 3) dL_fingers_19 (by decide) ?_
  refine z_isub C dL_fingers_20 ?_
  rw [show nI f0 - 3 = nI hi from by rw [show hi = f0 - 3 by omega]; exact pk_sub (b := 3) (by omega)]
  refine z_istore C dL_fingers_21 (by decide) ?_
  dsimp only [List.set]
  refine z_iconst C (v := 0) dL_fingers_23 (by decide) ?_
  refine z_istore C dL_fingers_24 (by decide) ?_
  dsimp only [List.set]
  refine lp_f1 C F (rok (by decide) (by decide)) (rok (by decide) (by decide)) (rok (by decide) (by decide)) (Bc := 36) (Bs := 232) ⟨by show 36 ≤ 300; omega, by show 232 ≤ 6 * 300; omega⟩ (fun τ o9 o10 o11 o12 o13 o14 cells slots hτ hah hc1 hc2 => ?_) (n + 1) 0 σ _ _ _ _ _ (by omega) (by omega) SameL.rf (fun h => absurd h (by omega)) (by omega) (by omega)
  refine z_sipush C (v := 10000) dL_fingers_186 (by decide) ?_
  refine z_istore C dL_fingers_189 (by decide) ?_
  dsimp only [List.set]
  refine z_iconst C (v := 1) dL_fingers_191 (by decide) ?_
  refine z_istore C dL_fingers_192 (by decide) ?_
  dsimp only [List.set]
  refine lp_f4 C F hτ hah (fun o10 => ?_) (hi + 1) 0 (by omega) (by omega) (fun _ => rfl)
  by_cases hpl : 0 < n ∧ tot P n < FARn
  · exact lp_f6y C (F.same hτ) (M := 300) hpl (fun τ' L' c1 c2 h1 h2 h3 => kret τ' L' c1 c2 (hτ.c h1) h2 h3) SameC.rf (by omega) (by omega)
  · exact lp_f6n C (F.same hτ) (M := 300) hpl (fun τ' L' c1 c2 h1 h2 h3 => kret τ' L' c1 c2 (hτ.c h1) h2 h3) SameC.rf (by omega) (by omega)
end
set_option maxRecDepth 100000 in
set_option maxHeartbeats 4000000 in
theorem c_L_fingers {l : Launch} {D : va_G} {ad : Nat → Nat → Nat} {cy : Nat → ClassId} {A : Nat → Prop} {sa : Nat → Nat} {σ : St} {T : Nat} (hI : LInv T σ) {np ni j q : Nat} (enp : σ 0 0 6 = nI np) (hnp : np ≤ 8) (eni : σ 0 0 7 = nI ni) (hni : ni ≤ 8) (hj : j < np) (hq : q < ni) (h0 : ad 99 0 = 0) : MK l D ad cy A sa yL_fingers cL_fingers 18 (some .boolean) 10 300 σ [.ref (ad 0 0), .ref (ad 17 0), .ref (ad 18 0), .ref (ad 19 0), .int (nI j), .int (nI q)] (fun r σ' => r = 1 ∧ SameC σ σ') := by
  refine MK.mk "FretSchoolLaw" (by decide) rfl (Nat.le_of_ble_eq_true rfl) rfl ?_
  intro p e s m args below meth c C
  change Z _ _ _ _ _ _ _ _ _ _ _ _ _ _ _ _ _ _ _ [some (.ref (ad 0 0)), some (.ref (ad 17 0)), some (.ref (ad 18 0)), some (.ref (ad 19 0)), some (.int (nI j)), some (.int (nI q)), none, none, none, none, none, none, none, none, none, none, none, none] 0 []
  refine z_bipush C (v := 14) dL_fingers_0 (by decide) ?_
  refine z_newa C (k0 := 23) (n0 := 1) (Or.inl rfl) (fun v => IX_1 h0) (IX_lt0 h0) ⟨Nat.le_of_ble_eq_true rfl, Nat.le_of_ble_eq_true rfl⟩ dL_fingers_2 (fun v1 C1 => ?_)
  refine z_astore C1 dL_fingers_4 (by decide) ?_
  dsimp only [List.set]
  refine z_bipush C1 (v := 14) dL_fingers_6 (by decide) ?_
  refine z_newa C1 (k0 := 24) (n0 := 2) (Or.inr rfl) (fun v => IX_2) (IX_lt1 h0) ⟨Nat.le_of_ble_eq_true rfl, Nat.le_of_ble_eq_true rfl⟩ dL_fingers_8 (fun v2 C2 => ?_)
  refine z_astore C2 dL_fingers_10 (by decide) ?_
  dsimp only [List.set]
  have e23 : adN (adN ad 23 v1 1) 24 v2 2 23 0 = v1 := rfl
  have e24 : adN (adN ad 23 v1 1) 24 v2 2 24 0 = v2 := rfl
  have e9 : IX (adN (adN ad 23 v1 1) 24 v2 2) = IX ad ++ [(23, 0)] ++ [(24, 0)] := by rw [IX_2, IX_1 h0]
  have ea : ∀ a, a < 23 → adN (adN ad 23 v1 1) 24 v2 2 a = ad a := fun a ha => by rw [adN_lt (by omega) (by omega), adN_lt (by omega) (by omega)]
  generalize adN (adN ad 23 v1 1) 24 v2 2 = ad2 at C2 e23 e24 e9 ea ⊢
  have hs2 : SameL σ (zs (zs σ 23) 24) := fun a b c0 h0 _ _ _ _ => by
    unfold zs
    rw [if_neg (by omega), if_neg (by omega)]
  generalize zs (zs σ 23) 24 = σ2 at hs2 ⊢
  have h23 : (23, 0) ∈ IX ad2 := by rw [e9]; exact List.mem_append_left _ (List.mem_append_right _ List.mem_cons_self)
  have h24 : (24, 0) ∈ IX ad2 := by rw [e9]; exact List.mem_append_right _ List.mem_cons_self
  obtain ⟨w, F⟩ := FAC.of (hI.sameL hs2) ((hs2.k 0 0 6 (by decide)).trans enp) hnp ((hs2.k 0 0 7 (by decide)).trans eni) hni hj hq h23 h24
  have Z2 := lp_f12 (Q := MQ below (va_Qi (fun r σ' => r = 1 ∧ SameC σ σ') (Bw D ad cy) A) args s 300 (6 * 300) A) (e := e) (below := below) C2 F (fun τ L' c1 c2 h1 h2 h3 => by
    refine z_widen h2 h3 ?_
    intro H locs ls hP hS hl
    have hss : SameL σ τ := fun a b c0 g0 g1 g2 g3 g4 => (h1 a b c0 g0 g1 g2 g3 g4).trans (hs2 a b c0 g0 g1 g2 g3 g4)
    have hsc : SameC σ (fun k => if k < 23 then τ k else σ k) := fun a b c0 g1 g2 g3 g4 => by
      by_cases z : a < 23
      · show (if a < 23 then τ a else σ a) b c0 = _
        rw [if_pos z]
        exact hss a b c0 z g1 g2 g3 g4
      · show (if a < 23 then τ a else σ a) b c0 = _
        rw [if_neg z]
    have hw : va_P D vwCl (WL ad cy (fun k => if k < 23 then τ k else σ k)) H := by
      intro k x hk
      have eW : WL ad2 cy τ = WL ad cy (fun k => if k < 23 then τ k else σ k) ++ WLg ([(23, 0)] ++ [(24, 0)]) ad2 cy τ := by
        have e1 : WL ad2 cy τ = WLg (IX ad) ad2 cy τ ++ WLg ([(23, 0)] ++ [(24, 0)]) ad2 cy τ := by
          unfold WL WLg
          rw [e9, List.append_assoc, List.map_append]
        rw [e1]
        congr 1
        refine WLg_cong ea (fun y hy => ?_)
        have hy' := IX_lt0 h0 y hy
        refine ⟨by rw [ea _ hy'], ?_⟩
        show τ y.1 y.2 = (if y.1 < 23 then τ y.1 else σ y.1) y.2
        rw [if_pos hy']
      refine hP k x ?_
      rw [eW, List.getElem?_append_left (List.getElem?_eq_some_iff.mp hk).1]
      exact hk
    exact W.zret C.1 C.2.1 C.2.2.2.2.2.1 (by decide +kernel) (fun t ht hW => ⟨⟨1, _, rfl, ⟨rfl, hsc⟩, by show va_P D vwCl (WL ad cy _) t.heap; rw [ht]; exact hw⟩, hS.F ht⟩) hS.2.2 dL_fingers_570 C.2.2.2.2.2.2.1) (o8 := none) (o9 := none) (o10 := none) (o11 := none) (o12 := none) (o13 := none) (o14 := none) (o15 := none) (o16 := none) (o17 := none)
  rw [e23, e24, ea 0 (by decide), ea 17 (by decide), ea 18 (by decide), ea 19 (by decide)] at Z2
  exact Z2
