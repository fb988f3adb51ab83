/-! ===== the model: finds ===== -/
theorem mn_unique {F : Nat → Nat} {a S : Nat} (hS : S ≤ FARn) (h1 : ∀ g, 1 ≤ g → g ≤ a → S ≤ F g) (h2 : S < FARn → ∃ b, 1 ≤ b ∧ b ≤ a ∧ F b = S) : mn F a = S := by
  rcases am_spec F a with ⟨_, e, h3⟩ | ⟨a1, a2, a3, a4, a5, _⟩
  · rcases Nat.lt_or_ge S FARn with q | q
    · obtain ⟨b, b1, b2, b3⟩ := h2 q
      have := h3 b b1 b2
      omega
    · omega
  · have := h1 _ a1 a2
    rcases Nat.lt_or_ge S FARn with q | q
    · obtain ⟨b, b1, b2, b3⟩ := h2 q
      have := a5 b b1 b2
      omega
    · omega
theorem am_unique {F : Nat → Nat} {a b : Nat} (hm : mn F a < FARn) (b1 : 1 ≤ b) (b2 : b ≤ a) (b3 : F b = mn F a) (b4 : ∀ g, 1 ≤ g → g < b → F g ≠ mn F a) : am F a = b := by
  rcases am_spec F a with ⟨_, e, h3⟩ | ⟨a1, a2, a3, a4, a5, a6⟩
  · omega
  · rcases Nat.lt_trichotomy (am F a) b with q | q | q
    · exact absurd a3 (b4 _ a1 q)
    · exact q
    · have := a6 b b1 q
      omega
theorem am_top {g : St} {j q i k h f0 : Nat} (hf : f0 ≤ 16) (h4 : 4 ≤ f0) : am (fun g1 => sh h g1 + VR (Pf g j q f0) k i g1) 13 = am (fun g1 => sh h g1 + VR (Pf g j q f0) k i g1) (f0 - 3) := by
  have e : 13 = f0 - 3 + (13 - (f0 - 3)) := by omega
  have hc := (mn_cut (f := fun g1 => sh h g1 + VR (Pf g j q f0) k i g1) (a := f0 - 3) (n := 13 - (f0 - 3)) (fun k2 a1 a2 => by
    have : VR (Pf g j q f0) k i k2 = FARn := VR_no (fun q2 => by have := (Pf_iff.mp q2).2.1; omega)
    show FARn ≤ sh h k2 + VR (Pf g j q f0) k i k2
    omega)).2
  rw [← e] at hc
  exact hc
theorem BT_eq {g : St} {j q : Nat} : BT g j q = mn (fun g1 => sh 0 g1 + VR (PFs g j q) (cN g j - 1) 0 g1) 13 := by
  unfold BT tot
  rfl
theorem RW_0 {g : St} {j q : Nat} : RW g j q 0 = am (fun g1 => sh 0 g1 + VR (PFs g j q) (cN g j - 1) 0 g1) 13 := by
  unfold RW
  rw [rowf]
theorem RW_s {g : St} {j q i : Nat} : RW g j q (i + 1) = am (fun g1 => sh (RW g j q i) g1 + VR (PFs g j q) (cN g j - 1 - (i + 1)) (i + 1) g1) 13 := by
  unfold RW
  rw [rowf]
/-- the piece can be played (kept closed for omega) -/
def PLw (g : St) (j q : Nat) : Prop := PL g j q
def RowOK (g : St) (j q i : Nat) : Prop := 1 ≤ RW g j q i ∧ RW g j q i ≤ 13 ∧ PFs g j q i (RW g j q i) = true ∧ VR (PFs g j q) (cN g j - 1 - i) i (RW g j q i) < FARn
theorem PLw.row {g : St} {j q : Nat} (h : PLw g j q) (i : Nat) (hi : i < cN g j) : RowOK g j q i := by
  obtain ⟨a1, a2, a3, a4, -, -⟩ := row_spec h.1 h.2 i hi
  exact ⟨a1, a2, a3, a4⟩
theorem PLw.pos {g : St} {j q : Nat} (h : PLw g j q) : 0 < cN g j := h.1
theorem PLw.cases {g : St} {j q : Nat} {x3 : Int32} (h0 : 0 < cN g j) (e3 : x3 = nI (BT g j q)) : (PLw g j q ∧ ∃ T, x3 = nI T ∧ T < FARn ∧ valS g j q = x3) ∨ (¬ PLw g j q ∧ x3 = nI FARn ∧ valS g j q = -1) := by
  have hl : BT g j q ≤ FARn := tot_le _ _
  rcases Nat.lt_or_ge (BT g j q) FARn with h | h
  · exact Or.inl ⟨⟨h0, h⟩, _, e3, h, by unfold valS; rw [if_pos ⟨h0, h⟩, e3]⟩
  · refine Or.inr ⟨fun a => absurd a.2 (Nat.not_lt.mpr h), ?_, ?_⟩
    · rw [e3, Nat.le_antisymm hl h]
    · unfold valS
      rw [if_neg (fun a => absurd a.2 (Nat.not_lt.mpr h))]
theorem PLw.no0 {g : St} {j q : Nat} (h : cN g j = 0) : ¬ PLw g j q ∧ valS g j q = -1 := by
  have hn : ¬ PL g j q := fun a => absurd a.1 (by rw [h]; exact Nat.lt_irrefl 0)
  exact ⟨hn, by unfold valS; rw [if_neg hn]⟩
def rowsF (g σ : St) (j q c9 : Nat) : Prop := ∀ i, c9 ≤ i → i < cN g j → ∀ g1, 1 ≤ g1 → g1 + 3 ≤ fN g q → σ 30 0 (14 * i + g1) = nI (VR (PFs g j q) (cN g j - 1 - i) i g1)
theorem FR.u30 {σ σ' : St} {k : Nat} {x : Int32} (h : FR σ σ') : FR σ (up σ' 30 0 k x) := fun a b c0 h1 h2 => by rw [up_app, if_neg (fun q => h1 q.1)]; exact h a b c0 h1 h2
theorem FR.u31 {σ σ' : St} {k : Nat} {x : Int32} (h : FR σ σ') : FR σ (up σ' 31 0 k x) := fun a b c0 h1 h2 => by rw [up_app, if_neg (fun q => h2 q.1)]; exact h a b c0 h1 h2
theorem pk_m1' (t : Nat) : nI (t + 1) + (0 - 1) = nI t := by
  rw [show (0 : Int32) - 1 = -1 by decide]
  exact pk_m1 t
section
variable {p : Program} {l : Launch} {e : Env} {R : Room} {s : State} {m : MethodId} {args : Array Value} {below : List Frame} {meth : Method} {c : Code} {D : va_G} {ad : Nat → Nat → Nat} {cy : Nat → ClassId} {A : Nat → Prop} {sa : Nat → Nat} {cells slots : Nat} {σ : St}
set_option maxRecDepth 100000 in
set_option maxHeartbeats 4000000 in
theorem lp_finds_Ai (C : Cx p l s m args meth c cX6_finds "FretSchoolModel" 7 (some .int) D ad cy A sa) {g : St} {x1 x2 : Int32} {j q : Nat} (hM : MRel g σ) (hI : Inv g) (e1 : x1 = nI j) (hj : j < 8) (e2 : x2 = nI q) (hq : q < 8) (hl : nI q < g 0 0 7) {x3 : Int32} {i : Nat} {post : Int32 → St → Prop} (e3 : x3 = nI i) (hi : i < cN g j) (kx : ∀ (σ' : St) (o4 : Option Value), FR σ σ' → rowsF g σ' j q i → Z p l e (rmD 4 0) s m args below meth c D ad cy A 7 0 0 (MQ below (va_Qi (post) (Bw D ad cy) A) args s 0 0 A) σ' [some (.ref (ad 17 0)), some (.int x1), some (.int x2), some (.int x3), o4, none, none] 56 []) : ∀ (fu t : Nat) (σ' : St) (x4 : Int32), x4 = nI (t + 1) → t + 3 ≤ fN g q → fN g q < t + 3 + fu → FR σ σ' → rowsF g σ' j q (i + 1) → (∀ g1, 1 ≤ g1 → g1 ≤ t → σ' 30 0 (14 * i + g1) = nI (VR (PFs g j q) (cN g j - 1 - i) i g1)) → Z p l e (rmD 4 0) s m args below meth c D ad cy A 7 0 0 (MQ below (va_Qi (post) (Bw D ad cy) A) args s 0 0 A) σ' [some (.ref (ad 17 0)), some (.int x1), some (.int x2), some (.int x3), some (.int x4), none, none] 16 [] := by
  have hc16 := (hI.2.2.2.1 j hj).2
  obtain ⟨eff, hf4, hf16⟩ := hI.fr hq hl
  have efm : nI (fN g q) - 3 = nI (fN g q - 3) := by rw [show (3 : Int32) = nI 3 from rfl, pk_sub (by omega)]
  intro fu
  induction fu with
  | zero => intro t σ' x4 _ _ h; exact absurd h (by omega)
  | succ fu ih =>
    intro t σ' x4 e4 ht hfu hfr hrows hrow
    have hM' : MRel g σ' := hM.fs hfr.fs
    have em : σ' 18 0 j = nI (cN g j) := (hM'.many hj).trans (hI.2.2.2.1 j hj).1
    have ef : σ' 21 0 q = nI (fN g q) := (hM'.fr hq hl).trans eff
    refine z_iload C dX6_finds_16 rfl ?_
    refine z_aload_n C dX6_finds_18 rfl ?_
    refine g_17_6 C wd591 dX6_finds_19 ?_
    refine z_iload_n C dX6_finds_22 rfl ?_
    refine a_21 C e2 (by omega) dX6_finds_23 ?_
    refine z_iconst C (v := 3) dX6_finds_24 (by decide) ?_
    refine z_isub C dX6_finds_25 ?_
    refine z_icmp_gt C 56 dX6_finds_26 (by decide) (fun c_26 => ?_) (fun c_26 => ?_)
    · have htf : fN g q - 3 < t + 1 := by rw [ef, efm, e4, nI_ltI (by omega) (by omega)] at c_26; exact c_26
      exact kx _ _ hfr (fun i2 a1 a2 g1 b1 b2 => (Nat.eq_or_lt_of_le a1).elim (fun e => by subst e; exact hrow g1 b1 (by omega)) (fun e => hrows i2 e a2 g1 b1 b2))
    · have htf : ¬ fN g q - 3 < t + 1 := by rw [ef, efm, e4, nI_ltI (by omega) (by omega)] at c_26; exact c_26
      refine z_aload_n C dX6_finds_29 rfl ?_
      refine g_17_16 C wd601 dX6_finds_30 ?_
      refine z_bipush C (v := 14) dX6_finds_33 (by decide) ?_
      refine z_iload_n C dX6_finds_35 rfl ?_
      refine z_imul C dX6_finds_36 ?_
      refine z_iload C dX6_finds_37 rfl ?_
      refine z_iadd C dX6_finds_39 ?_
      refine z_aload_n C dX6_finds_40 rfl ?_
      refine z_iload_n C dX6_finds_41 rfl ?_
      refine z_iload_n C dX6_finds_42 rfl ?_
      refine z_iload_n C dX6_finds_43 rfl ?_
      refine z_iload C dX6_finds_44 rfl ?_
      refine z_cvi C (As := [_, _, _, _]) (c_X6_from hM' hI e1 hj e3 hi e2 hq e4 hl (by omega) (by omega) (fun a g1 b1 b2 => hrows (i + 1) (by omega) a g1 b1 b2)) okX6_from wd711 rc_17 (rok (by decide) (by decide)) ⟨Nat.le_of_ble_eq_true rfl, Nat.le_of_ble_eq_true rfl⟩ rfl (Nat.le_of_ble_eq_true rfl) dX6_finds_46 ?_
      rintro _ _ ⟨rfl, rfl⟩
      refine s_30 C (ix2 (m := 14) (i := i) (j := t + 1) rfl e3 e4) (by omega) dX6_finds_49 ?_
      refine z_iinc C (v := 1) dX6_finds_50 rfl (by decide) (by decide) ?_
      dsimp only [List.set]
      refine z_goto C 16 dX6_finds_53 (by decide) ?_
      refine ih (t + 1) _ _ (by rw [e4]; exact nI_1 (t + 1)) (by omega) (by omega) hfr.u30 (fun i2 a1 a2 g1 b1 b2 => ?_) (fun g1 b1 b2 => ?_)
      · rw [up_app, if_neg (by omega)]
        exact hrows i2 a1 a2 g1 b1 b2
      · rw [up_app]
        rcases Nat.lt_or_ge t g1 with e | e
        · rw [if_pos (by omega), show g1 = t + 1 by omega]
        · rw [if_neg (by omega)]
          exact hrow g1 b1 e
end
section
variable {p : Program} {l : Launch} {e : Env} {R : Room} {s : State} {m : MethodId} {args : Array Value} {below : List Frame} {meth : Method} {c : Code} {D : va_G} {ad : Nat → Nat → Nat} {cy : Nat → ClassId} {A : Nat → Prop} {sa : Nat → Nat} {cells slots : Nat} {σ : St}
set_option maxRecDepth 100000 in
set_option maxHeartbeats 4000000 in
theorem lp_finds_A (C : Cx p l s m args meth c cX6_finds "FretSchoolModel" 7 (some .int) D ad cy A sa) {g : St} {x1 x2 : Int32} {j q : Nat} (hM : MRel g σ) (hI : Inv g) (e1 : x1 = nI j) (hj : j < 8) (e2 : x2 = nI q) (hq : q < 8) (hl : nI q < g 0 0 7) {post : Int32 → St → Prop} (kx : ∀ (σ' : St) (o3 o4 : Option Value), FR σ σ' → rowsF g σ' j q 0 → Z p l e (rmD 4 0) s m args below meth c D ad cy A 7 0 0 (MQ below (va_Qi (post) (Bw D ad cy) A) args s 0 0 A) σ' [some (.ref (ad 17 0)), some (.int x1), some (.int x2), o3, o4, none, none] 62 []) : ∀ (c9 : Nat) (σ' : St) (x3 : Int32) (o4 : Option Value), x3 + 1 = nI c9 → c9 ≤ cN g j → FR σ σ' → rowsF g σ' j q c9 → Z p l e (rmD 4 0) s m args below meth c D ad cy A 7 0 0 (MQ below (va_Qi (post) (Bw D ad cy) A) args s 0 0 A) σ' [some (.ref (ad 17 0)), some (.int x1), some (.int x2), some (.int x3), o4, none, none] 9 [] := by
  have hc16 := (hI.2.2.2.1 j hj).2
  obtain ⟨eff, hf4, hf16⟩ := hI.fr hq hl
  have efm : nI (fN g q) - 3 = nI (fN g q - 3) := by rw [show (3 : Int32) = nI 3 from rfl, pk_sub (by omega)]
  intro c9
  induction c9 with
  | zero =>
    intro σ' x3 o4 e3 hc hfr hrows
    have hx : x3 < 0 := by
      have h1 : x3 = -1 := by
        have h2 : x3 + 1 - 1 = nI 0 - 1 := by rw [e3]
        rw [Int32.add_sub_cancel] at h2
        rw [h2]
        decide
      rw [h1]
      decide
    refine z_iload_n C dX6_finds_9 rfl ?_
    refine z_if_lt C 62 dX6_finds_10 (by decide) (fun c_10 => ?_) (fun c_10 => ?_)
    · exact kx _ _ _ hfr hrows
    · exact absurd hx c_10
  | succ c9 ih =>
    intro σ' x3 o4 e3 hc hfr hrows
    have e3 : x3 = nI c9 := by
      have h2 : x3 + 1 - 1 = nI (c9 + 1) - 1 := by rw [e3]
      rw [Int32.add_sub_cancel, nI_pred] at h2
      exact h2
    have hM' : MRel g σ' := hM.fs hfr.fs
    refine z_iload_n C dX6_finds_9 rfl ?_
    refine z_if_lt C 62 dX6_finds_10 (by decide) (fun c_10 => ?_) (fun c_10 => ?_)
    · exact absurd c_10 (by rw [e3]; exact nI_pos (by omega))
    refine z_iconst C (v := 1) dX6_finds_13 (by decide) ?_
    refine z_istore C dX6_finds_14 (by decide) ?_
    dsimp only [List.set]
    refine lp_finds_Ai C hM' hI e1 hj e2 hq hl e3 (by omega) (fun σ2 o4 hfr2 hrows2 => ?_) 20 0 _ _ rfl (by omega) (by omega) FR.rf hrows (fun g1 b1 b2 => absurd b1 (by omega))
    refine z_iinc C (v := -1) dX6_finds_56 rfl (by decide) (by decide) ?_
    dsimp only [List.set]
    refine z_goto C 9 dX6_finds_59 (by decide) ?_
    exact ih _ _ _ (by rw [e3, Int32.add_assoc]; exact Int32.add_zero _) (by omega) (hfr.trans hfr2) hrows2
end
section
variable {p : Program} {l : Launch} {e : Env} {R : Room} {s : State} {m : MethodId} {args : Array Value} {below : List Frame} {meth : Method} {c : Code} {D : va_G} {ad : Nat → Nat → Nat} {cy : Nat → ClassId} {A : Nat → Prop} {sa : Nat → Nat} {cells slots : Nat} {σ : St}
set_option maxRecDepth 100000 in
set_option maxHeartbeats 4000000 in
theorem lp_finds_B (C : Cx p l s m args meth c cX6_finds "FretSchoolModel" 7 (some .int) D ad cy A sa) {g : St} {x1 x2 : Int32} {j q : Nat} (hM : MRel g σ) (hI : Inv g) (e1 : x1 = nI j) (hj : j < 8) (e2 : x2 = nI q) (hq : q < 8) (hl : nI q < g 0 0 7) {post : Int32 → St → Prop} (hn : 0 < cN g j) (kx : ∀ (σ' : St) (x3 : Int32) (o4 : Option Value), FR σ σ' → rowsF g σ' j q 0 → x3 = nI (BT g j q) → (PLw g j q → σ' 31 0 0 = nI (RW g j q 0)) → Z p l e (rmD 4 0) s m args below meth c D ad cy A 7 0 0 (MQ below (va_Qi (post) (Bw D ad cy) A) args s 0 0 A) σ' [some (.ref (ad 17 0)), some (.int x1), some (.int x2), some (.int x3), o4, none, none] 123 []) : ∀ (t : Nat) (σ' : St) (x3 x4 : Int32), x4 = nI t → t + 3 ≤ fN g q → FR σ σ' → rowsF g σ' j q 0 → (∃ S, x3 = nI S ∧ S ≤ FARn ∧ (∀ g1, t < g1 → g1 + 3 ≤ fN g q → S ≤ (VR (PFs g j q) (cN g j - 1) 0 g1)) ∧ (S < FARn → ∃ b, t < b ∧ b + 3 ≤ fN g q ∧ S = VR (PFs g j q) (cN g j - 1) 0 b ∧ σ' 31 0 0 = nI b ∧ ∀ g1, t < g1 → g1 < b → S < (VR (PFs g j q) (cN g j - 1) 0 g1))) → Z p l e (rmD 4 0) s m args below meth c D ad cy A 7 0 0 (MQ below (va_Qi (post) (Bw D ad cy) A) args s 0 0 A) σ' [some (.ref (ad 17 0)), some (.int x1), some (.int x2), some (.int x3), some (.int x4), none, none] 75 [] := by
  have hc16 := (hI.2.2.2.1 j hj).2
  obtain ⟨eff, hf4, hf16⟩ := hI.fr hq hl
  have efm : nI (fN g q) - 3 = nI (fN g q - 3) := by rw [show (3 : Int32) = nI 3 from rfl, pk_sub (by omega)]
  have hFAR : FARn = 1000000 := rfl
  intro t
  induction t with
  | zero =>
    intro σ' x3 x4 e4 ht hfr hrows hS
    refine z_iload C dX6_finds_75 rfl ?_
    refine z_iconst C (v := 1) dX6_finds_77 (by decide) ?_
    refine z_icmp_lt C 123 dX6_finds_78 (by decide) (fun c_78 => ?_) (fun c_78 => ?_)
    · obtain ⟨S, eS, hS1, hS2, hS3⟩ := hS
      have hmn : mn (fun g1 => sh 0 g1 + VR (PFs g j q) (cN g j - 1) 0 g1) (fN g q - 3) = S := mn_unique hS1 (fun g1 b1 b2 => by have := hS2 g1 (by omega) (by omega); show S ≤ 0 + VR (PFs g j q) (cN g j - 1) 0 g1; omega) (fun h => by obtain ⟨b, b1, b2, b3, _⟩ := hS3 h; exact ⟨b, by omega, by omega, by show 0 + VR (PFs g j q) (cN g j - 1) 0 b = S; omega⟩)
      have hT : BT g j q = S := BT_eq.trans ((mn_top (g := g) (j := j) (q := q) (i := 0) (k := cN g j - 1) (h := 0) hf16 hf4).trans hmn)
      refine kx _ _ _ hfr hrows (by rw [hT]; exact eS) (fun h => ?_)
      have h : BT g j q < FARn := h.2
      rw [hT] at h
      obtain ⟨b, b1, b2, b3, b4, b5⟩ := hS3 h
      rw [b4]
      have hr : RW g j q 0 = b := RW_0.trans ((am_top (g := g) (j := j) (q := q) (i := 0) (k := cN g j - 1) (h := 0) hf16 hf4).trans (am_unique (by rw [hmn]; exact h) (by omega) (by omega) (by rw [hmn]; show 0 + VR (PFs g j q) (cN g j - 1) 0 b = S; omega) (fun g1 c1 c2 => by rw [hmn]; have := b5 g1 (by omega) c2; show 0 + VR (PFs g j q) (cN g j - 1) 0 g1 ≠ S; omega)))
      rw [hr]
    · exact absurd (by rw [e4]; decide) c_78
  | succ t ih =>
    intro σ' x3 x4 e4 ht hfr hrows hS
    have hM' : MRel g σ' := hM.fs hfr.fs
    have em : σ' 18 0 j = nI (cN g j) := (hM'.many hj).trans (hI.2.2.2.1 j hj).1
    have ef : σ' 21 0 q = nI (fN g q) := (hM'.fr hq hl).trans eff
    obtain ⟨S, eS, hS1, hS2, hS3⟩ := hS
    have hr0 := hrows 0 (by omega) hn (t + 1) (by omega) (by omega)
    rw [show 14 * 0 + (t + 1) = t + 1 by omega] at hr0
    have hv := VR_le (PFs g j q) (cN g j - 1 - 0) 0 (t + 1)
    refine z_iload C dX6_finds_75 rfl ?_
    refine z_iconst C (v := 1) dX6_finds_77 (by decide) ?_
    refine z_icmp_lt C 123 dX6_finds_78 (by decide) (fun c_78 => ?_) (fun c_78 => ?_)
    · exact absurd c_78 (by rw [e4, show (1 : Int32) = nI 1 from rfl]; exact nI_nlt (by omega) (by omega))
    refine z_aload_n C dX6_finds_81 rfl ?_
    refine g_17_2 C wd587 dX6_finds_82 ?_
    refine z_iload_n C dX6_finds_85 rfl ?_
    refine a_18 C e1 (by omega) dX6_finds_86 ?_
    refine z_if_le C 123 dX6_finds_87 (by decide) (fun c_87 => ?_) (fun c_87 => ?_)
    · exact absurd c_87 (by rw [em]; exact nI_nle hn (by omega))
    refine z_aload_n C dX6_finds_90 rfl ?_
    refine g_17_16 C wd601 dX6_finds_91 ?_
    refine z_iload C dX6_finds_94 rfl ?_
    refine a_30 C e4 (by omega) dX6_finds_96 ?_
    refine z_iload_n C dX6_finds_97 rfl ?_
    refine z_icmp_gt C 117 dX6_finds_98 (by decide) (fun c_98 => ?_) (fun c_98 => ?_)
    · have hlt : S < VR (PFs g j q) (cN g j - 1 - 0) 0 (t + 1) := by rw [hr0, eS, nI_ltI (by omega) (by omega)] at c_98; exact c_98
      refine z_iinc C (v := (-1)) dX6_finds_117 rfl (by decide) (by decide) ?_
      dsimp only [List.set]
      refine z_goto C 75 dX6_finds_120 (by decide) ?_
      refine ih _ _ _ (by rw [e4, show (-1 : Int32) = 0 - 1 by decide]; exact pk_m1' t) (by omega) hfr hrows ⟨S, eS, hS1, fun g1 b1 b2 => ?_, fun h => ?_⟩
      · rcases Nat.lt_or_ge (t + 1) g1 with e | e
        · exact hS2 g1 e b2
        · rw [show g1 = t + 1 by omega]
          exact Nat.le_of_lt hlt
      · obtain ⟨b, b1, b2, b3, b4, b5⟩ := hS3 h
        refine ⟨b, by omega, b2, b3, b4, fun g1 c1 c2 => ?_⟩
        rcases Nat.lt_or_ge (t + 1) g1 with e | e
        · exact b5 g1 e c2
        · rw [show g1 = t + 1 by omega]
          exact hlt
    · have hlt : ¬ S < VR (PFs g j q) (cN g j - 1 - 0) 0 (t + 1) := by rw [hr0, eS, nI_ltI (by omega) (by omega)] at c_98; exact c_98
      refine z_aload_n C dX6_finds_101 rfl ?_
      refine g_17_16 C wd601 dX6_finds_102 ?_
      refine z_iload C dX6_finds_105 rfl ?_
      refine a_30 C e4 (by omega) dX6_finds_107 ?_
      refine z_istore_n C dX6_finds_108 (by decide) ?_
      dsimp only [List.set]
      refine z_aload_n C dX6_finds_109 rfl ?_
      refine g_17_17 C wd602 dX6_finds_110 ?_
      refine z_iconst C (v := 0) dX6_finds_113 (by decide) ?_
      refine z_iload C dX6_finds_114 rfl ?_
      refine s_31 C (j := 0) (by decide) (by decide) dX6_finds_116 ?_
      refine z_iinc C (v := (-1)) dX6_finds_117 rfl (by decide) (by decide) ?_
      dsimp only [List.set]
      refine z_goto C 75 dX6_finds_120 (by decide) ?_
      refine ih _ _ _ (by rw [e4, show (-1 : Int32) = 0 - 1 by decide]; exact pk_m1' t) (by omega) hfr.u31 (fun i2 a1 a2 g1 b1 b2 => by rw [up_app, if_neg (by omega)]; exact hrows i2 a1 a2 g1 b1 b2) ⟨VR (PFs g j q) (cN g j - 1 - 0) 0 (t + 1), hr0, hv, fun g1 b1 b2 => ?_, fun h => ⟨t + 1, by omega, ht, rfl, ?_, fun g1 c1 c2 => absurd c2 (by omega)⟩⟩
      · rcases Nat.lt_or_ge (t + 1) g1 with e | e
        · have := hS2 g1 e b2
          omega
        · rw [show g1 = t + 1 by omega]
          exact Nat.le_refl _
      · rw [up_app, if_pos ⟨rfl, rfl, rfl⟩]
        exact e4
end
section
variable {p : Program} {l : Launch} {e : Env} {R : Room} {s : State} {m : MethodId} {args : Array Value} {below : List Frame} {meth : Method} {c : Code} {D : va_G} {ad : Nat → Nat → Nat} {cy : Nat → ClassId} {A : Nat → Prop} {sa : Nat → Nat} {cells slots : Nat} {σ : St}
set_option maxRecDepth 100000 in
set_option maxHeartbeats 4000000 in
theorem lp_finds_Ci (C : Cx p l s m args meth c cX6_finds "FretSchoolModel" 7 (some .int) D ad cy A sa) {g : St} {x1 x2 : Int32} {j q : Nat} (hM : MRel g σ) (hI : Inv g) (e1 : x1 = nI j) (hj : j < 8) (e2 : x2 = nI q) (hq : q < 8) (hl : nI q < g 0 0 7) {x3 x4 x5 : Int32} {i M : Nat} {post : Int32 → St → Prop} (e4 : x4 = nI (i + 1)) (hi : i + 1 < cN g j) (e5 : x5 = nI M) (hMF : M < FARn) (hb1 : 1 ≤ RW g j q i) (hb2 : RW g j q i < 14) (kx : ∀ (σ' : St) (o6 : Option Value), FR σ σ' → rowsF g σ' j q 0 → (∀ i2, i2 < i + 1 → σ' 31 0 i2 = nI (RW g j q i2)) → ((∀ g1, 0 < g1 → g1 + 3 ≤ fN g q → (sh (RW g j q i) g1 + VR (PFs g j q) (cN g j - 1 - (i + 1)) (i + 1) g1) ≠ M) ∨ ∃ b, 0 < b ∧ b + 3 ≤ fN g q ∧ (sh (RW g j q i) b + VR (PFs g j q) (cN g j - 1 - (i + 1)) (i + 1) b) = M ∧ σ' 31 0 (i + 1) = nI b ∧ ∀ g1, 0 < g1 → g1 < b → (sh (RW g j q i) g1 + VR (PFs g j q) (cN g j - 1 - (i + 1)) (i + 1) g1) ≠ M) → Z p l e (rmD 4 0) s m args below meth c D ad cy A 7 0 0 (MQ below (va_Qi (post) (Bw D ad cy) A) args s 0 0 A) σ' [some (.ref (ad 17 0)), some (.int x1), some (.int x2), some (.int x3), some (.int x4), some (.int x5), o6] 231 []) : ∀ (t : Nat) (σ' : St) (x6 : Int32), x6 = nI t → t + 3 ≤ fN g q → FR σ σ' → rowsF g σ' j q 0 → (∀ i2, i2 < i + 1 → σ' 31 0 i2 = nI (RW g j q i2)) → ((∀ g1, t < g1 → g1 + 3 ≤ fN g q → (sh (RW g j q i) g1 + VR (PFs g j q) (cN g j - 1 - (i + 1)) (i + 1) g1) ≠ M) ∨ ∃ b, t < b ∧ b + 3 ≤ fN g q ∧ (sh (RW g j q i) b + VR (PFs g j q) (cN g j - 1 - (i + 1)) (i + 1) b) = M ∧ σ' 31 0 (i + 1) = nI b ∧ ∀ g1, t < g1 → g1 < b → (sh (RW g j q i) g1 + VR (PFs g j q) (cN g j - 1 - (i + 1)) (i + 1) g1) ≠ M) → Z p l e (rmD 4 0) s m args below meth c D ad cy A 7 0 0 (MQ below (va_Qi (post) (Bw D ad cy) A) args s 0 0 A) σ' [some (.ref (ad 17 0)), some (.int x1), some (.int x2), some (.int x3), some (.int x4), some (.int x5), some (.int x6)] 177 [] := by
  have hc16 := (hI.2.2.2.1 j hj).2
  obtain ⟨eff, hf4, hf16⟩ := hI.fr hq hl
  have efm : nI (fN g q) - 3 = nI (fN g q - 3) := by rw [show (3 : Int32) = nI 3 from rfl, pk_sub (by omega)]
  have hFAR : FARn = 1000000 := rfl
  intro t
  induction t with
  | zero =>
    intro σ' x6 e6 ht hfr hrows hbest hinv
    refine z_iload C dX6_finds_177 rfl ?_
    refine z_iconst C (v := 1) dX6_finds_179 (by decide) ?_
    refine z_icmp_lt C 231 dX6_finds_180 (by decide) (fun c_180 => ?_) (fun c_180 => ?_)
    · exact kx _ _ hfr hrows hbest hinv
    · exact absurd (by rw [e6]; decide) c_180
  | succ t ih =>
    intro σ' x6 e6 ht hfr hrows hbest hinv
    have hr := hrows (i + 1) (by omega) hi (t + 1) (by omega) (by omega)
    have hv := VR_le (PFs g j q) (cN g j - 1 - (i + 1)) (i + 1) (t + 1)
    have hs := sh_le (b := RW g j q i) (h := t + 1) (by omega) (by omega)
    refine z_iload C dX6_finds_177 rfl ?_
    refine z_iconst C (v := 1) dX6_finds_179 (by decide) ?_
    refine z_icmp_lt C 231 dX6_finds_180 (by decide) (fun c_180 => ?_) (fun c_180 => ?_)
    · exact absurd c_180 (by rw [e6, show (1 : Int32) = nI 1 from rfl]; exact nI_nlt (by omega) (by omega))
    refine z_aload_n C dX6_finds_183 rfl ?_
    refine g_17_17 C wd602 dX6_finds_184 ?_
    refine z_iload C dX6_finds_187 rfl ?_
    refine z_iconst C (v := 1) dX6_finds_189 (by decide) ?_
    refine z_isub C dX6_finds_190 ?_
    refine a_31 C (j := i) (by rw [e4, show (1 : Int32) = nI 1 from rfl, pk_sub (by omega)]; rfl) (by omega) dX6_finds_191 ?_
    refine z_iload C dX6_finds_192 rfl ?_
    refine z_csi C (As := [_, _]) (c_X6_apart (hbest i (by omega)) e6 hb1 hb2 (by omega)) okX6_apart wd724 (rok (by decide) (by decide)) ⟨Nat.le_of_ble_eq_true rfl, Nat.le_of_ble_eq_true rfl⟩ rfl (Nat.le_of_ble_eq_true rfl) dX6_finds_194 ?_
    rintro _ _ ⟨rfl, rfl⟩
    refine z_aload_n C dX6_finds_197 rfl ?_
    refine g_17_16 C wd601 dX6_finds_198 ?_
    refine z_bipush C (v := 14) dX6_finds_201 (by decide) ?_
    refine z_iload C dX6_finds_203 rfl ?_
    refine z_imul C dX6_finds_205 ?_
    refine z_iload C dX6_finds_206 rfl ?_
    refine z_iadd C dX6_finds_208 ?_
    refine a_30 C (ix2 (m := 14) (i := i + 1) (j := t + 1) rfl e4 e6) (by omega) dX6_finds_209 ?_
    refine z_iadd C dX6_finds_210 ?_
    refine z_iload C dX6_finds_211 rfl ?_
    refine z_icmp_ne C 225 dX6_finds_213 (by decide) (fun c_213 => ?_) (fun c_213 => ?_)
    · have hne : (sh (RW g j q i) (t + 1) + VR (PFs g j q) (cN g j - 1 - (i + 1)) (i + 1) (t + 1)) ≠ M := fun a => c_213 (by rw [hr, nI_add, e5, a])
      refine z_iinc C (v := (-1)) dX6_finds_225 rfl (by decide) (by decide) ?_
      dsimp only [List.set]
      refine z_goto C 177 dX6_finds_228 (by decide) ?_
      refine ih _ _ (by rw [e6, show (-1 : Int32) = 0 - 1 by decide]; exact pk_m1' t) (by omega) hfr hrows hbest (hinv.elim (fun a => Or.inl (fun g1 b1 b2 => ?_)) (fun a => ?_))
      · rcases Nat.lt_or_ge (t + 1) g1 with e | e
        · exact a g1 e b2
        · rw [show g1 = t + 1 by omega]
          exact hne
      · obtain ⟨b, b1, b2, b3, b4, b5⟩ := a
        refine Or.inr ⟨b, by omega, b2, b3, b4, fun g1 c1 c2 => ?_⟩
        rcases Nat.lt_or_ge (t + 1) g1 with e | e
        · exact b5 g1 e c2
        · rw [show g1 = t + 1 by omega]
          exact hne
    · have heq : (sh (RW g j q i) (t + 1) + VR (PFs g j q) (cN g j - 1 - (i + 1)) (i + 1) (t + 1)) = M := by rw [hr, nI_add, e5, nI_eq (by omega) (by omega)] at c_213; exact c_213
      refine z_aload_n C dX6_finds_216 rfl ?_
      refine g_17_17 C wd602 dX6_finds_217 ?_
      refine z_iload C dX6_finds_220 rfl ?_
      refine z_iload C dX6_finds_222 rfl ?_
      refine s_31 C e4 (by omega) dX6_finds_224 ?_
      refine z_iinc C (v := (-1)) dX6_finds_225 rfl (by decide) (by decide) ?_
      dsimp only [List.set]
      refine z_goto C 177 dX6_finds_228 (by decide) ?_
      refine ih _ _ (by rw [e6, show (-1 : Int32) = 0 - 1 by decide]; exact pk_m1' t) (by omega) hfr.u31 (fun i2 a1 a2 g1 b1 b2 => by rw [up_app, if_neg (by omega)]; exact hrows i2 a1 a2 g1 b1 b2) (fun i2 a1 => by rw [up_app, if_neg (by omega)]; exact hbest i2 a1) (Or.inr ⟨t + 1, by omega, ht, heq, ?_, fun g1 c1 c2 => absurd c2 (by omega)⟩)
      rw [up_app, if_pos ⟨rfl, rfl, rfl⟩]
      exact e6
end
section
variable {p : Program} {l : Launch} {e : Env} {R : Room} {s : State} {m : MethodId} {args : Array Value} {below : List Frame} {meth : Method} {c : Code} {D : va_G} {ad : Nat → Nat → Nat} {cy : Nat → ClassId} {A : Nat → Prop} {sa : Nat → Nat} {cells slots : Nat} {σ : St}
set_option maxRecDepth 100000 in
set_option maxHeartbeats 4000000 in
theorem lp_finds_C (C : Cx p l s m args meth c cX6_finds "FretSchoolModel" 7 (some .int) D ad cy A sa) {g : St} {x1 x2 : Int32} {j q : Nat} (hM : MRel g σ) (hI : Inv g) (e1 : x1 = nI j) (hj : j < 8) (e2 : x2 = nI q) (hq : q < 8) (hl : nI q < g 0 0 7) {x3 : Int32} {T : Nat} {post : Int32 → St → Prop} (hPL : PLw g j q) (e3 : x3 = nI T) (hTF : T < FARn) (kx : ∀ (σ' : St) (o4 o5 o6 : Option Value), FR σ σ' → (∀ i2, i2 < cN g j → σ' 31 0 i2 = nI (RW g j q i2)) → Z p l e (rmD 4 0) s m args below meth c D ad cy A 7 0 0 (MQ below (va_Qi (post) (Bw D ad cy) A) args s 0 0 A) σ' [some (.ref (ad 17 0)), some (.int x1), some (.int x2), some (.int x3), o4, o5, o6] 237 []) : ∀ (fu i : Nat) (σ' : St) (x4 : Int32) (o5 o6 : Option Value), x4 = nI (i + 1) → i + 1 ≤ cN g j → cN g j < i + 1 + fu → FR σ σ' → rowsF g σ' j q 0 → (∀ i2, i2 < i + 1 → σ' 31 0 i2 = nI (RW g j q i2)) → Z p l e (rmD 4 0) s m args below meth c D ad cy A 7 0 0 (MQ below (va_Qi (post) (Bw D ad cy) A) args s 0 0 A) σ' [some (.ref (ad 17 0)), some (.int x1), some (.int x2), some (.int x3), some (.int x4), o5, o6] 126 [] := by
  have hc16 := (hI.2.2.2.1 j hj).2
  obtain ⟨eff, hf4, hf16⟩ := hI.fr hq hl
  have efm : nI (fN g q) - 3 = nI (fN g q - 3) := by rw [show (3 : Int32) = nI 3 from rfl, pk_sub (by omega)]
  have hFAR : FARn = 1000000 := rfl
  intro fu
  induction fu with
  | zero => intro i σ' x4 o5 o6 _ _ h; exact absurd h (by omega)
  | succ fu ih =>
    intro i σ' x4 o5 o6 e4 hi hfu hfr hrows hbest
    have hM' : MRel g σ' := hM.fs hfr.fs
    have em : σ' 18 0 j = nI (cN g j) := (hM'.many hj).trans (hI.2.2.2.1 j hj).1
    have ef : σ' 21 0 q = nI (fN g q) := (hM'.fr hq hl).trans eff
    obtain ⟨ra1, ra2, ra3, ra4⟩ := hPL.row i (by omega)
    have hri : RW g j q i + 3 ≤ fN g q := (Pf_iff.mp ra3).2.1
    refine z_iload C dX6_finds_126 rfl ?_
    refine z_aload_n C dX6_finds_128 rfl ?_
    refine g_17_2 C wd587 dX6_finds_129 ?_
    refine z_iload_n C dX6_finds_132 rfl ?_
    refine a_18 C e1 (by omega) dX6_finds_133 ?_
    refine z_icmp_ge C 237 dX6_finds_134 (by decide) (fun c_134 => ?_) (fun c_134 => ?_)
    · have hin : ¬ i + 1 < cN g j := by rw [em, e4, nI_leI (by omega) (by omega)] at c_134; omega
      exact kx _ _ _ _ hfr (fun i2 a => hbest i2 (by omega))
    · have hin : i + 1 < cN g j := by rw [em, e4, nI_leI (by omega) (by omega)] at c_134; omega
      refine z_iload_n C dX6_finds_137 rfl ?_
      refine z_ldc C (v := 1000000) wd723 dX6_finds_138 ?_
      refine z_icmp_ge C 237 dX6_finds_140 (by decide) (fun c_140 => ?_) (fun c_140 => ?_)
      · exact absurd c_140 (by rw [e3, nI_FAR, nI_leI (by omega) (by omega)]; omega)
      refine z_aload_n C dX6_finds_143 rfl ?_
      refine g_17_16 C wd601 dX6_finds_144 ?_
      refine z_bipush C (v := 14) dX6_finds_147 (by decide) ?_
      refine z_iload C dX6_finds_149 rfl ?_
      refine z_iconst C (v := 1) dX6_finds_151 (by decide) ?_
      refine z_isub C dX6_finds_152 ?_
      refine z_imul C dX6_finds_153 ?_
      refine z_aload_n C dX6_finds_154 rfl ?_
      refine g_17_17 C wd602 dX6_finds_155 ?_
      refine z_iload C dX6_finds_158 rfl ?_
      refine z_iconst C (v := 1) dX6_finds_160 (by decide) ?_
      refine z_isub C dX6_finds_161 ?_
      refine a_31 C (j := i) (by rw [e4, show (1 : Int32) = nI 1 from rfl, pk_sub (by omega)]; rfl) (by omega) dX6_finds_162 ?_
      refine z_iadd C dX6_finds_163 ?_
      refine a_30 C (ix2 (m := 14) (i := i) (j := RW g j q i) rfl (by rw [e4, show (1 : Int32) = nI 1 from rfl, pk_sub (by omega)]; rfl) (hbest i (by omega))) (by omega) dX6_finds_164 ?_
      refine z_istore C dX6_finds_165 (by decide) ?_
      dsimp only [List.set]
      refine z_aload_n C dX6_finds_167 rfl ?_
      refine g_17_6 C wd591 dX6_finds_168 ?_
      refine z_iload_n C dX6_finds_171 rfl ?_
      refine a_21 C (by assumption) (by first | assumption | omega) dX6_finds_172 ?_
      refine z_iconst C (v := 3) dX6_finds_173 (by decide) ?_
      refine z_isub C dX6_finds_174 ?_
      refine z_istore C dX6_finds_175 (by decide) ?_
      dsimp only [List.set]
      have hrest := hrows i (by omega) (by omega) (RW g j q i) ra1 hri
      rw [hrest, ef, efm]
      obtain ⟨M, hMe⟩ : ∃ M, M = VR (PFs g j q) (cN g j - 1 - i) i (RW g j q i) := ⟨_, rfl⟩
      have ra4' : M < FARn := by rw [hMe]; exact ra4
      have hMmn : M = mn (fun g1 => sh (RW g j q i) g1 + VR (PFs g j q) (cN g j - 1 - (i + 1)) (i + 1) g1) (fN g q - 3) := hMe.trans ((VR_1 (P := PFs g j q) (n := cN g j) (i := i) (h := RW g j q i) hin ra3).trans (mn_top (g := g) (j := j) (q := q) (i := i + 1) (k := cN g j - 1 - (i + 1)) (h := RW g j q i) hf16 hf4))
      rw [← hMe]
      refine lp_finds_Ci C hM' hI e1 hj e2 hq hl (x3 := x3) e4 hin rfl ra4' ra1 (by omega) (fun σ2 o6 hfr2 hrows2 hbest2 hinv2 => ?_) (fN g q - 3) _ _ rfl (by omega) FR.rf hrows hbest (Or.inl (fun g1 b1 b2 => absurd b1 (by omega)))
      refine z_iinc C (v := 1) dX6_finds_231 rfl (by decide) (by decide) ?_
      dsimp only [List.set]
      refine z_goto C 126 dX6_finds_234 (by decide) ?_
      refine ih (i + 1) _ _ _ _ (by rw [e4]; exact nI_1 (i + 1)) (by omega) (by omega) (hfr.trans hfr2) hrows2 (fun i2 a => (Nat.lt_or_ge i2 (i + 1)).elim (fun e => hbest2 i2 e) (fun e => ?_))
      rw [show i2 = i + 1 by omega]
      have hex2 : ∃ b, 1 ≤ b ∧ b ≤ fN g q - 3 ∧ (fun g1 => sh (RW g j q i) g1 + VR (PFs g j q) (cN g j - 1 - (i + 1)) (i + 1) g1) b = M := by
        rcases am_spec (fun g1 => sh (RW g j q i) g1 + VR (PFs g j q) (cN g j - 1 - (i + 1)) (i + 1) g1) (fN g q - 3) with ⟨_, e9, _⟩ | ⟨a1, a2, a3, _⟩
        · rw [← hMmn] at e9; omega
        · exact ⟨_, a1, a2, a3.trans hMmn.symm⟩
      rcases hinv2 with a9 | ⟨b, b1, b2, b3, b4, b5⟩
      · obtain ⟨b, b1, b2, b3⟩ := hex2
        exact absurd b3 (a9 b (by omega) (by omega))
      · rw [b4]
        have hr9 : RW g j q (i + 1) = b := RW_s.trans ((am_top (g := g) (j := j) (q := q) (i := i + 1) (k := cN g j - 1 - (i + 1)) (h := RW g j q i) hf16 hf4).trans (am_unique (by rw [← hMmn]; exact ra4') (by omega) (by omega) (b3.trans hMmn) (fun g1 c1 c2 => by rw [← hMmn]; exact b5 g1 (by omega) c2)))
        rw [hr9]
end
set_option maxRecDepth 100000 in
set_option maxHeartbeats 4000000 in
theorem c_X6_finds {l : Launch} {D : va_G} {ad : Nat → Nat → Nat} {cy : Nat → ClassId} {A : Nat → Prop} {sa : Nat → Nat} {σ : St} {g : St} {x1 x2 : Int32} {j q : Nat} (hM : MRel g σ) (hI : Inv g) (e1 : x1 = nI j) (hj : j < 8) (e2 : x2 = nI q) (hq : q < 8) (hl : nI q < g 0 0 7) : MI l D ad cy A sa yX6_finds cX6_finds 7 (some .int) 4 σ [.ref (ad 17 0), .int x1, .int x2] (fun r σ' => FR σ σ' ∧ r = valS g j q ∧ (PLw g j q → ∀ i, i < cN g j → σ' 31 0 i = nI (RW g j q i))) := by
  refine MI.mk "FretSchoolModel" (by decide) rfl (Nat.le_of_ble_eq_true rfl) rfl ?_
  intro p e s m args below meth c C
  change Z _ _ _ _ _ _ _ _ _ _ _ _ _ _ _ _ _ _ _ [some (.ref (ad 17 0)), some (.int x1), some (.int x2), none, none, none, none] 0 []
  have hc16 := (hI.2.2.2.1 j hj).2
  obtain ⟨eff, hf4, hf16⟩ := hI.fr hq hl
  have efm : nI (fN g q) - 3 = nI (fN g q - 3) := by rw [show (3 : Int32) = nI 3 from rfl, pk_sub (by omega)]
  have hFAR : FARn = 1000000 := rfl
  have em0 : σ 18 0 j = nI (cN g j) := (hM.many hj).trans (hI.2.2.2.1 j hj).1
  refine z_aload_n C dX6_finds_0 rfl ?_
  refine g_17_2 C wd587 dX6_finds_1 ?_
  refine z_iload_n C dX6_finds_4 rfl ?_
  refine a_18 C e1 (by omega) dX6_finds_5 ?_
  refine z_iconst C (v := 1) dX6_finds_6 (by decide) ?_
  refine z_isub C dX6_finds_7 ?_
  refine z_istore_n C dX6_finds_8 (by decide) ?_
  dsimp only [List.set]
  refine lp_finds_A C hM hI e1 hj e2 hq hl (fun σ' o3 o4 hfr hrows => ?_) (cN g j) _ _ _ (by rw [em0, Int32.sub_add_cancel]) (by omega) FR.rf (fun i a1 a2 => absurd a2 (by omega))
  have hM' : MRel g σ' := hM.fs hfr.fs
  have em : σ' 18 0 j = nI (cN g j) := (hM'.many hj).trans (hI.2.2.2.1 j hj).1
  have ef : σ' 21 0 q = nI (fN g q) := (hM'.fr hq hl).trans eff
  refine z_ldc C (v := 1000000) wd723 dX6_finds_62 ?_
  refine z_istore_n C dX6_finds_64 (by decide) ?_
  dsimp only [List.set]
  refine z_aload_n C dX6_finds_65 rfl ?_
  refine g_17_6 C wd591 dX6_finds_66 ?_
  refine z_iload_n C dX6_finds_69 rfl ?_
  refine a_21 C e2 (by omega) dX6_finds_70 ?_
  refine z_iconst C (v := 3) dX6_finds_71 (by decide) ?_
  refine z_isub C dX6_finds_72 ?_
  refine z_istore C dX6_finds_73 (by decide) ?_
  dsimp only [List.set]
  rw [ef, efm]
  rcases Nat.eq_zero_or_pos (cN g j) with hn0 | hn0
  · refine z_iload C dX6_finds_75 rfl ?_
    refine z_iconst C (v := 1) dX6_finds_77 (by decide) ?_
    refine z_icmp_lt C 123 dX6_finds_78 (by decide) (fun c_78 => ?_) (fun c_78 => ?_)
    · exact absurd c_78 (by rw [show (1 : Int32) = nI 1 from rfl]; exact nI_nlt (by omega) (by omega))
    refine z_aload_n C dX6_finds_81 rfl ?_
    refine g_17_2 C wd587 dX6_finds_82 ?_
    refine z_iload_n C dX6_finds_85 rfl ?_
    refine a_18 C e1 (by omega) dX6_finds_86 ?_
    refine z_if_le C 123 dX6_finds_87 (by decide) (fun c_87 => ?_) (fun c_87 => ?_)
    rotate_left
    · exact absurd (by rw [em, hn0]; decide) c_87
    refine z_iconst C (v := 1) dX6_finds_123 (by decide) ?_
    refine z_istore C dX6_finds_124 (by decide) ?_
    dsimp only [List.set]
    refine z_iload C dX6_finds_126 rfl ?_
    refine z_aload_n C dX6_finds_128 rfl ?_
    refine g_17_2 C wd587 dX6_finds_129 ?_
    refine z_iload_n C dX6_finds_132 rfl ?_
    refine a_18 C e1 (by omega) dX6_finds_133 ?_
    refine z_icmp_ge C 237 dX6_finds_134 (by decide) (fun c_134 => ?_) (fun c_134 => ?_)
    rotate_left
    · exact absurd (by rw [em, hn0]; decide) c_134
    refine z_iload_n C dX6_finds_237 rfl ?_
    refine z_ldc C (v := 1000000) wd723 dX6_finds_238 ?_
    refine z_icmp_ge C 247 dX6_finds_240 (by decide) (fun c_240 => ?_) (fun c_240 => ?_)
    rotate_left
    · exact absurd (by decide) c_240
    refine z_iconst C (v := (-1)) dX6_finds_247 (by decide) ?_
    refine z_iret C dX6_finds_248 ?_
    exact ⟨hfr, (PLw.no0 hn0).2.symm, fun h => absurd h (PLw.no0 hn0).1⟩
  · refine lp_finds_B C hM' hI e1 hj e2 hq hl hn0 (fun σ2 x3 o4 hfr2 hrows2 e3 hb0 => ?_) (fN g q - 3) _ _ _ rfl (by omega) FR.rf hrows ⟨FARn, rfl, Nat.le_refl _, fun g1 b1 b2 => absurd b1 (by omega), fun h => absurd h (by omega)⟩
    refine z_iconst C (v := 1) dX6_finds_123 (by decide) ?_
    refine z_istore C dX6_finds_124 (by decide) ?_
    dsimp only [List.set]
    have hM2 : MRel g σ2 := hM'.fs hfr2.fs
    have em2 : σ2 18 0 j = nI (cN g j) := (hM2.many hj).trans (hI.2.2.2.1 j hj).1
    rcases PLw.cases hn0 e3 with ⟨hPL, T, eT, hTF, hval⟩ | ⟨hnP, eT, hval⟩
    · refine lp_finds_C C (hM'.fs hfr2.fs) hI e1 hj e2 hq hl hPL eT hTF (fun σ3 o4 o5 o6 hfr3 hbest3 => ?_) (cN g j) 0 _ _ _ _ rfl (by omega) (by omega) FR.rf hrows2 (fun i2 a => by rw [show i2 = 0 by omega]; exact hb0 hPL)
      refine z_iload_n C dX6_finds_237 rfl ?_
      refine z_ldc C (v := 1000000) wd723 dX6_finds_238 ?_
      refine z_icmp_ge C 247 dX6_finds_240 (by decide) (fun c_240 => ?_) (fun c_240 => ?_)
      · exact absurd c_240 (by rw [eT, nI_FAR, nI_leI (by omega) (by omega)]; omega)
      refine z_iload_n C dX6_finds_243 rfl ?_
      refine z_goto C 248 dX6_finds_244 (by decide) ?_
      refine z_iret C dX6_finds_248 ?_
      exact ⟨(hfr.trans hfr2).trans hfr3, hval.symm, fun _ => hbest3⟩
    · refine z_iload C dX6_finds_126 rfl ?_
      refine z_aload_n C dX6_finds_128 rfl ?_
      refine g_17_2 C wd587 dX6_finds_129 ?_
      refine z_iload_n C dX6_finds_132 rfl ?_
      refine a_18 C e1 (by omega) dX6_finds_133 ?_
      refine z_icmp_ge C 237 dX6_finds_134 (by decide) (fun c_134 => ?_) (fun c_134 => ?_)
      · skip
        refine z_iload_n C dX6_finds_237 rfl ?_
        refine z_ldc C (v := 1000000) wd723 dX6_finds_238 ?_
        refine z_icmp_ge C 247 dX6_finds_240 (by decide) (fun c_240 => ?_) (fun c_240 => ?_)
        rotate_left
        · exact absurd (by rw [eT]; decide) c_240
        refine z_iconst C (v := (-1)) dX6_finds_247 (by decide) ?_
        refine z_iret C dX6_finds_248 ?_
        exact ⟨hfr.trans hfr2, hval.symm, fun h => absurd h hnP⟩
      · skip
        refine z_iload_n C dX6_finds_137 rfl ?_
        refine z_ldc C (v := 1000000) wd723 dX6_finds_138 ?_
        refine z_icmp_ge C 237 dX6_finds_140 (by decide) (fun c_140 => ?_) (fun c_140 => ?_)
        rotate_left
        · exact absurd (by rw [eT]; decide) c_140
        refine z_iload_n C dX6_finds_237 rfl ?_
        refine z_ldc C (v := 1000000) wd723 dX6_finds_238 ?_
        refine z_icmp_ge C 247 dX6_finds_240 (by decide) (fun c_240 => ?_) (fun c_240 => ?_)
        rotate_left
        · exact absurd (by rw [eT]; decide) c_240
        refine z_iconst C (v := (-1)) dX6_finds_247 (by decide) ?_
        refine z_iret C dX6_finds_248 ?_
        exact ⟨hfr.trans hfr2, hval.symm, fun h => absurd h hnP⟩
