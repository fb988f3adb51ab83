/-! ===== the model: next ===== -/
theorem lsV_rng (g : St) (w : Int32) (j q : Nat) : lsV g w j q = -1 ∨ ∃ a, a < 13 ∧ lsV g w j q = nI a := by
  unfold lsV
  by_cases h : g 13 q 1 = w ∧ PL g j q ∧ ¬ g 15 (ix w) 0 < nI (HG g j q)
  · rw [if_pos h]
    have h2 : PLw g j q := h.2.1
    exact Or.inr ⟨_, h2.hval.2, rfl⟩
  · rw [if_neg h]; exact Or.inl rfl
/-- within a piece: c, E from the pieces ahead, es the least so far on the instruments -/
def NS (c0 : Int32) (E : Nat) (jn es x2 x3 : Int32) : Prop := (es = -1 ∧ x2 = c0 ∧ x3 = nI E) ∨ ∃ a, es = nI a ∧ a < 13 ∧ ((a < E ∧ x2 = jn ∧ x3 = nI a) ∨ (E ≤ a ∧ x2 = c0 ∧ x3 = nI E))
def OS (nx : Int32 × Int32) (E : Nat) (x2 x3 : Int32) : Prop := x2 = nx.1 ∧ E ≤ FARn ∧ x3 = nI E ∧ (nx.1 = -1 → E = FARn) ∧ (nx.1 ≠ -1 → nx.2 = nI E ∧ E < 13)
theorem NS.skip {g : St} {w : Int32} {j q E : Nat} {c0 jn x2 x3 : Int32} (h : NS c0 E jn (esV g w j q) x2 x3) (hv : lsV g w j q = -1) : NS c0 E jn (esV g w j (q + 1)) x2 x3 := by
  rw [esV_s, if_pos hv]; exact h
theorem NS.keep {g : St} {w : Int32} {j q E b : Nat} {c0 jn x2 x3 : Int32} (hE : E ≤ FARn) (h : NS c0 E jn (esV g w j q) x2 x3) (hv : lsV g w j q = nI b) (hb : b < 13) (hx : x3 ≤ nI b) : NS c0 E jn (esV g w j (q + 1)) x2 x3 := by
  have hF : FARn = 1000000 := rfl
  rw [esV_s, hv, if_neg (nI_nm1 (by omega))]
  rcases h with ⟨h1, h2, h3⟩ | ⟨a, h1, ha, h2⟩
  · rw [h1, if_pos rfl]
    rw [h3, nI_leI (by omega) (by omega)] at hx
    exact Or.inr ⟨b, rfl, hb, Or.inr ⟨hx, h2, h3⟩⟩
  · rw [h1, if_neg (nI_nm1 (by omega))]
    rcases h2 with ⟨h2, h3, h4⟩ | ⟨h2, h3, h4⟩
    · rw [if_pos (by rw [← h4]; exact hx)]
      exact Or.inr ⟨a, rfl, ha, Or.inl ⟨h2, h3, h4⟩⟩
    · rw [h4, nI_leI (by omega) (by omega)] at hx
      by_cases q2 : nI a ≤ nI b
      · rw [if_pos q2]; exact Or.inr ⟨a, rfl, ha, Or.inr ⟨h2, h3, h4⟩⟩
      · rw [if_neg q2]; exact Or.inr ⟨b, rfl, hb, Or.inr ⟨hx, h3, h4⟩⟩
theorem NS.take {g : St} {w : Int32} {j q E b : Nat} {c0 jn x2 x3 : Int32} (hE : E ≤ FARn) (h : NS c0 E jn (esV g w j q) x2 x3) (hv : lsV g w j q = nI b) (hb : b < 13) (hx : ¬ x3 ≤ nI b) : NS c0 E jn (esV g w j (q + 1)) jn (nI b) := by
  have hF : FARn = 1000000 := rfl
  rw [esV_s, hv, if_neg (nI_nm1 (by omega))]
  rcases h with ⟨h1, h2, h3⟩ | ⟨a, h1, ha, h2⟩
  · rw [h1, if_pos rfl]
    rw [h3, nI_leI (by omega) (by omega)] at hx
    exact Or.inr ⟨b, rfl, hb, Or.inl ⟨by omega, rfl, rfl⟩⟩
  · rw [h1, if_neg (nI_nm1 (by omega))]
    rcases h2 with ⟨h2, h3, h4⟩ | ⟨h2, h3, h4⟩
    · rw [if_neg (by rw [← h4]; exact hx)]
      rw [h4, nI_leI (by omega) (by omega)] at hx
      exact Or.inr ⟨b, rfl, hb, Or.inl ⟨by omega, rfl, rfl⟩⟩
    · rw [h4, nI_leI (by omega) (by omega)] at hx
      rw [if_neg (by rw [nI_leI (by omega) (by omega)]; omega)]
      exact Or.inr ⟨b, rfl, hb, Or.inl ⟨by omega, rfl, rfl⟩⟩
theorem OS.known {g : St} {w : Int32} {ni j E : Nat} {x2 x3 : Int32} (h : OS (nxV g w ni j) E x2 x3) (hk : knowsP g w (nI j)) : OS (nxV g w ni (j + 1)) E x2 x3 := by
  rw [nxV_s, if_pos (show nsV g w ni j = -1 from if_neg hk)]; exact h
theorem OS.step {g : St} {w : Int32} {ni j E : Nat} {x2 x3 : Int32} (hj : j < 8) (hE : E ≤ FARn) (h0 : ((nxV g w ni j).1 = -1 → E = FARn) ∧ ((nxV g w ni j).1 ≠ -1 → (nxV g w ni j).2 = nI E ∧ E < 13)) (hk : ¬ knowsP g w (nI j)) (h : NS (nxV g w ni j).1 E (nI j) (esV g w j ni) x2 x3) : ∃ E', OS (nxV g w ni (j + 1)) E' x2 x3 := by
  have hF : FARn = 1000000 := rfl
  have hns : nsV g w ni j = esV g w j ni := if_pos (Classical.byContradiction hk)
  rw [nxV_s, hns]
  rcases h with ⟨h1, h2, h3⟩ | ⟨a, h1, ha, h2⟩
  · rw [if_pos h1]
    exact ⟨E, h2, hE, h3, h0.1, h0.2⟩
  · rw [h1, if_neg (nI_nm1 (by omega))]
    by_cases hc : (nxV g w ni j).1 = -1
    · have := h0.1 hc
      rw [if_pos hc]
      rcases h2 with ⟨h2, h3, h4⟩ | ⟨h2, _, _⟩
      · exact ⟨a, h3, by omega, h4, fun q => absurd q (nI_nm1 (by omega)), fun _ => ⟨rfl, ha⟩⟩
      · omega
    · obtain ⟨h5, h6⟩ := h0.2 hc
      rw [if_neg hc, h5]
      rcases h2 with ⟨h2, h3, h4⟩ | ⟨h2, h3, h4⟩
      · rw [if_neg (by rw [nI_leI (by omega) (by omega)]; omega)]
        exact ⟨a, h3, by omega, h4, fun q => absurd q (nI_nm1 (by omega)), fun _ => ⟨rfl, ha⟩⟩
      · rw [if_pos (by rw [nI_leI (by omega) (by omega)]; exact h2)]
        exact ⟨E, h3, hE, h4, fun q => absurd q hc, fun _ => ⟨h5, h6⟩⟩
section
variable {p : Program} {l : Launch} {e : Env} {R : Room} {s : State} {m : MethodId} {args : Array Value} {below : List Frame} {meth : Method} {c : Code} {D : va_G} {ad : Nat → Nat → Nat} {cy : Nat → ClassId} {A : Nat → Prop} {sa : Nat → Nat} {cells slots : Nat} {σ : St}
set_option maxRecDepth 100000 in
set_option maxHeartbeats 4000000 in
theorem lp_next_i (C : Cx p l s m args meth c cX6_next "FretSchoolModel" 6 (some .int) D ad cy A sa) {g : St} {w : Int32} {np ni : Nat} (hM : MRel g σ) (hI : Inv g) (ew : w = nI (ix w)) (hw5 : ix w < 5) (enp : g 0 0 6 = nI np) (hnp : np ≤ 8) (eni : g 0 0 7 = nI ni) (hni : ni ≤ 8) {j E : Nat} {c0 x4 : Int32} {post : Int32 → St → Prop} (e4 : x4 = nI j) (hj : j < np) (hE : E ≤ FARn) (kx : ∀ (σ' : St) (x2 x3 : Int32) (o5 : Option Value), FS σ σ' → σ' 17 0 18 = 0 → (knowsP g w (nI j) → x2 = c0 ∧ x3 = nI E) → (¬ knowsP g w (nI j) → NS c0 E (nI j) (esV g w j ni) x2 x3) → Z p l e (rmD 7 0) s m args below meth c D ad cy A 6 0 0 (MQ below (va_Qi (post) (Bw D ad cy) A) args s 0 0 A) σ' [some (.ref (ad 17 0)), some (.int w), some (.int x2), some (.int x3), some (.int x4), o5] 86 []) : ∀ (fu q : Nat) (σ' : St) (x2 x3 x5 : Int32), x5 = nI q → q ≤ ni → ni < q + fu → FS σ σ' → σ' 17 0 18 = 0 → (knowsP g w (nI j) → x2 = c0 ∧ x3 = nI E) → (¬ knowsP g w (nI j) → NS c0 E (nI j) (esV g w j q) x2 x3) → Z p l e (rmD 7 0) s m args below meth c D ad cy A 6 0 0 (MQ below (va_Qi (post) (Bw D ad cy) A) args s 0 0 A) σ' [some (.ref (ad 17 0)), some (.int w), some (.int x2), some (.int x3), some (.int x4), some (.int x5)] 35 [] := by
  have hFAR : FARn = 1000000 := rfl
  intro fu
  induction fu with
  | zero => intro q σ' x2 x3 x5 _ _ h; exact absurd h (by omega)
  | succ fu ih =>
    intro q σ' x2 x3 x5 e5 hq hfu hfs ht hkn hNS
    have hM' : MRel g σ' := hM.fs hfs
    have eni' : σ' 17 0 4 = nI ni := hM'.2.1.trans eni
    have enp' : σ' 17 0 1 = nI np := hM'.1.trans enp
    refine z_iload C dX6_next_35 rfl ?_
    refine z_aload_n C dX6_next_37 rfl ?_
    refine g_17_4 C wd589 dX6_next_38 ?_
    refine z_icmp_ge C 86 dX6_next_41 (by decide) (fun c_41 => ?_) (fun c_41 => ?_)
    · have hqn : ni ≤ q := by rw [eni', e5, nI_leI (by omega) (by omega)] at c_41; exact c_41
      exact kx _ _ _ _ hfs ht hkn (fun a => by rw [← show q = ni by omega]; exact hNS a)
    · have hqn : q < ni := by rw [eni', e5, nI_leI (by omega) (by omega)] at c_41; omega
      have hql : nI q < g 0 0 7 := by rw [eni]; exact nI_lt hqn (by omega)
      refine z_aload_n C dX6_next_44 rfl ?_
      refine z_iload_n C dX6_next_45 rfl ?_
      refine z_iload C dX6_next_46 rfl ?_
      refine z_iload C dX6_next_48 rfl ?_
      refine z_cvi C (As := [_, _, _]) (c_X6_canLearn hM' hI ew hw5 e4 (by omega) e5 (by omega) hql) okX6_canLearn wd758 rc_17 (rok (by decide) (by decide)) ⟨Nat.le_of_ble_eq_true rfl, Nat.le_of_ble_eq_true rfl⟩ rfl (Nat.le_of_ble_eq_true rfl) dX6_next_50 ?_
      rintro r50 σ2 ⟨hfr2, h50⟩
      have hM2 : MRel g σ2 := hM'.fs hfr2.fs
      refine z_if_eq C 80 dX6_next_53 (by decide) (fun c_53 => ?_) (fun c_53 => ?_)
      · have hc50 : knowsP g w x4 ∨ lsV g w j q = -1 := h50.elim (fun a => absurd (a.1.symm.trans c_53) (by decide)) (fun a => a.2)
        refine z_iinc C (v := 1) dX6_next_80 rfl (by decide) (by decide) ?_
        dsimp only [List.set]
        refine z_goto C 35 dX6_next_83 (by decide) ?_
        exact ih (q + 1) _ _ _ _ (by rw [e5]; exact nI_1 q) (by omega) (by omega) (hfs.trans hfr2.fs) (by rw [hfr2 17 0 18 (by decide) (by decide)]; exact ht) hkn (fun a => (hNS a).skip (hc50.elim (fun k => absurd (by rw [← e4]; exact k) a) id))
      · obtain ⟨hc1, hc2, hc3, hc4, hc5⟩ : ¬ knowsP g w x4 ∧ ¬ lsV g w j q = -1 ∧ lsV g w j q = valH g j q ∧ HG g j q < 13 ∧ valH g j q = nI (HG g j q) := h50.elim (fun a => a.2) (fun a => absurd a.1 c_53)
        rw [e4] at hc1
        obtain ⟨b, hb⟩ : ∃ b, b = HG g j q := ⟨_, rfl⟩
        rw [← hb] at hc4 hc5
        clear hb
        refine z_aload_n C dX6_next_56 rfl ?_
        refine z_iload C dX6_next_57 rfl ?_
        refine z_iload C dX6_next_59 rfl ?_
        refine z_cvi C (As := [_, _]) (c_X6_hardestOf hM2 hI e4 (by omega) e5 (by omega) hql) okX6_hardestOf wd735 rc_17 (rok (by decide) (by decide)) ⟨Nat.le_of_ble_eq_true rfl, Nat.le_of_ble_eq_true rfl⟩ rfl (Nat.le_of_ble_eq_true rfl) dX6_next_61 ?_
        rintro r61 σ3 ⟨hfr3, e61⟩
        have hM3 : MRel g σ3 := hM2.fs hfr3.fs
        refine z_iload_n C dX6_next_64 rfl ?_
        refine z_icmp_ge C 80 dX6_next_65 (by decide) (fun c_65 => ?_) (fun c_65 => ?_)
        · rw [e61, hc5] at c_65
          refine z_iinc C (v := 1) dX6_next_80 rfl (by decide) (by decide) ?_
          dsimp only [List.set]
          refine z_goto C 35 dX6_next_83 (by decide) ?_
          exact ih (q + 1) _ _ _ _ (by rw [e5]; exact nI_1 q) (by omega) (by omega) ((hfs.trans hfr2.fs).trans hfr3.fs) (by rw [hfr3 17 0 18 (by decide) (by decide), hfr2 17 0 18 (by decide) (by decide)]; exact ht) hkn (fun a => (hNS a).keep hE (hc3.trans hc5) hc4 c_65)
        · rw [e61, hc5] at c_65
          refine z_aload_n C dX6_next_68 rfl ?_
          refine z_iload C dX6_next_69 rfl ?_
          refine z_iload C dX6_next_71 rfl ?_
          refine z_cvi C (As := [_, _]) (c_X6_hardestOf hM3 hI e4 (by omega) e5 (by omega) hql) okX6_hardestOf wd735 rc_17 (rok (by decide) (by decide)) ⟨Nat.le_of_ble_eq_true rfl, Nat.le_of_ble_eq_true rfl⟩ rfl (Nat.le_of_ble_eq_true rfl) dX6_next_73 ?_
          rintro r73 σ4 ⟨hfr4, e73⟩
          obtain rfl : r73 = nI b := e73.trans hc5
          refine z_istore_n C dX6_next_76 (by decide) ?_
          dsimp only [List.set]
          refine z_iload C dX6_next_77 rfl ?_
          refine z_istore_n C dX6_next_79 (by decide) ?_
          dsimp only [List.set]
          refine z_iinc C (v := 1) dX6_next_80 rfl (by decide) (by decide) ?_
          dsimp only [List.set]
          refine z_goto C 35 dX6_next_83 (by decide) ?_
          exact ih (q + 1) _ _ _ _ (by rw [e5]; exact nI_1 q) (by omega) (by omega) (((hfs.trans hfr2.fs).trans hfr3.fs).trans hfr4.fs) (by rw [hfr4 17 0 18 (by decide) (by decide), hfr3 17 0 18 (by decide) (by decide), hfr2 17 0 18 (by decide) (by decide)]; exact ht) (fun a => absurd a hc1) (fun a => by rw [e4]; exact (hNS a).take hE (hc3.trans hc5) hc4 c_65)
end
section
variable {p : Program} {l : Launch} {e : Env} {R : Room} {s : State} {m : MethodId} {args : Array Value} {below : List Frame} {meth : Method} {c : Code} {D : va_G} {ad : Nat → Nat → Nat} {cy : Nat → ClassId} {A : Nat → Prop} {sa : Nat → Nat} {cells slots : Nat} {σ : St}
set_option maxRecDepth 100000 in
set_option maxHeartbeats 4000000 in
theorem lp_next (C : Cx p l s m args meth c cX6_next "FretSchoolModel" 6 (some .int) D ad cy A sa) {g : St} {w : Int32} {np ni : Nat} (hM : MRel g σ) (hI : Inv g) (ew : w = nI (ix w)) (hw5 : ix w < 5) (enp : g 0 0 6 = nI np) (hnp : np ≤ 8) (eni : g 0 0 7 = nI ni) (hni : ni ≤ 8) (hK : K_pupil w = 0) : ∀ (fu j E : Nat) (σ' : St) (x2 x3 x4 : Int32) (o5 : Option Value), x4 = nI j → j ≤ np → np < j + fu → FS σ σ' → σ' 17 0 18 = 0 → OS (nxV g w ni j) E x2 x3 → Z p l e (rmD 7 0) s m args below meth c D ad cy A 6 0 0 (MQ below (va_Qi (fun r σ' => MPost g g σ σ' (K_pupil w) ∧ (K_pupil w = 0 → r = (nxV g w (ix (g 0 0 7)) (ix (g 0 0 6))).1)) (Bw D ad cy) A) args s 0 0 A) σ' [some (.ref (ad 17 0)), some (.int w), some (.int x2), some (.int x3), some (.int x4), o5] 23 [] := by
  intro fu
  induction fu with
  | zero => intro j E σ' x2 x3 x4 o5 _ _ h; exact absurd h (by omega)
  | succ fu ih =>
    intro j E σ' x2 x3 x4 o5 e4 hj hfu hfs ht hOS
    have hM' : MRel g σ' := hM.fs hfs
    have eni' : σ' 17 0 4 = nI ni := hM'.2.1.trans eni
    have enp' : σ' 17 0 1 = nI np := hM'.1.trans enp
    refine z_iload C dX6_next_23 rfl ?_
    refine z_aload_n C dX6_next_25 rfl ?_
    refine g_17_1 C wd586 dX6_next_26 ?_
    refine z_icmp_ge C 92 dX6_next_29 (by decide) (fun c_29 => ?_) (fun c_29 => ?_)
    · have hjn : np ≤ j := by rw [enp', e4, nI_leI (by omega) (by omega)] at c_29; exact c_29
      refine z_iload_n C dX6_next_92 rfl ?_
      refine z_iret C dX6_next_93 ?_
      exact ⟨MPost.fs hM hfs (by rw [ht, hK]; rfl), fun _ => by rw [hOS.1, eni, enp, ix_nI (by omega), ix_nI (by omega), show j = np by omega]⟩
    · have hjn : j < np := by rw [enp', e4, nI_leI (by omega) (by omega)] at c_29; omega
      refine z_iconst C (v := 0) dX6_next_32 (by decide) ?_
      refine z_istore C dX6_next_33 (by decide) ?_
      dsimp only [List.set]
      obtain ⟨q1, q2, q3, q4, q5⟩ := hOS
      refine lp_next_i C hM hI ew hw5 enp hnp eni hni (E := E) (c0 := (nxV g w ni j).1) e4 hjn q2 (fun σ2 y2 y3 o5 hfs2 ht2 hkn2 hNS2 => ?_) (ni + 1) 0 _ _ _ _ nI_0.symm (by omega) (by omega) hfs ht (fun _ => ⟨q1, q3⟩) (fun _ => Or.inl ⟨rfl, q1, q3⟩)
      refine z_iinc C (v := 1) dX6_next_86 rfl (by decide) (by decide) ?_
      dsimp only [List.set]
      refine z_goto C 23 dX6_next_89 (by decide) ?_
      by_cases hk : knowsP g w (nI j)
      · obtain ⟨a1, a2⟩ := hkn2 hk
        exact ih (j + 1) E _ _ _ _ _ (by rw [e4]; exact nI_1 j) (by omega) (by omega) hfs2 ht2 (OS.known ⟨a1, q2, a2, q4, q5⟩ hk)
      · obtain ⟨E', hO⟩ := OS.step (by omega) q2 ⟨q4, q5⟩ hk (hNS2 hk)
        exact ih (j + 1) E' _ _ _ _ _ (by rw [e4]; exact nI_1 j) (by omega) (by omega) hfs2 ht2 hO
end
set_option maxRecDepth 100000 in
set_option maxHeartbeats 4000000 in
theorem c_X6_next {l : Launch} {D : va_G} {ad : Nat → Nat → Nat} {cy : Nat → ClassId} {A : Nat → Prop} {sa : Nat → Nat} {σ : St} {g : St} {w : Int32} (hM : MRel g σ) (hI : Inv g) : MI l D ad cy A sa yX6_next cX6_next 6 (some .int) 7 σ [.ref (ad 17 0), .int w] (fun r σ' => MPost g g σ σ' (K_pupil w) ∧ (K_pupil w = 0 → r = (nxV g w (ix (g 0 0 7)) (ix (g 0 0 6))).1)) := by
  refine MI.mk "FretSchoolModel" (by decide) rfl (Nat.le_of_ble_eq_true rfl) rfl ?_
  intro p e s m args below meth c C
  change Z _ _ _ _ _ _ _ _ _ _ _ _ _ _ _ _ _ _ _ [some (.ref (ad 17 0)), some (.int w), none, none, none, none] 0 []
  obtain ⟨np, hnp, enp⟩ := hI.1
  obtain ⟨ni, hni, eni⟩ := hI.2.1
  refine z_aload_n C dX6_next_0 rfl ?_
  refine z_iload_n C dX6_next_1 rfl ?_
  refine z_csi C (As := [_]) (c_X6_isPupil) okX6_isPupil wd755 (rok (by decide) (by decide)) ⟨Nat.le_of_ble_eq_true rfl, Nat.le_of_ble_eq_true rfl⟩ rfl (Nat.le_of_ble_eq_true rfl) dX6_next_2 ?_
  rintro r2 _ ⟨rfl, h2⟩
  rcases h2 with ⟨rfl, hb2⟩ | ⟨rfl, hb2⟩
  · have hK : K_pupil w = 0 := by unfold K_pupil; rw [if_neg hb2]
    obtain ⟨ew, hw4⟩ := nout (n := 4) (by decide) hb2
    have hw5 : ix w < 5 := by omega
    refine z_iconst C (v := 1) dX6_next_5 (by decide) ?_
    refine z_iconst C (v := 1) dX6_next_6 (by decide) ?_
    refine z_cvi C (As := [_, _, _]) (c_X6_goes) okX6_goes wd652 rc_17 (rok (by decide) (by decide)) ⟨Nat.le_of_ble_eq_true rfl, Nat.le_of_ble_eq_true rfl⟩ rfl (Nat.le_of_ble_eq_true rfl) dX6_next_7 ?_
    rintro r7 _ ⟨rfl, e7⟩
    refine z_if_ne C 15 dX6_next_10 (by decide) (fun c_10 => ?_) (fun c_10 => ?_)
    · refine z_iconst C (v := (-1)) dX6_next_15 (by decide) ?_
      refine z_istore_n C dX6_next_16 (by decide) ?_
      dsimp only [List.set]
      refine z_ldc C (v := 1000000) wd723 dX6_next_17 ?_
      refine z_istore_n C dX6_next_19 (by decide) ?_
      dsimp only [List.set]
      refine z_iconst C (v := 0) dX6_next_20 (by decide) ?_
      refine z_istore C dX6_next_21 (by decide) ?_
      dsimp only [List.set]
      exact lp_next C hM hI ew hw5 enp hnp eni hni hK (np + 1) 0 FARn _ _ _ _ _ nI_0.symm (by omega) (by omega) FS.thr (by rw [up_app, if_pos ⟨rfl, rfl, rfl⟩]; rfl) ⟨rfl, Nat.le_refl _, rfl, fun _ => rfl, fun a => absurd rfl a⟩
    · exact absurd (e7.symm.trans c_10) (by decide)
  · have hK : K_pupil w = 1 := by unfold K_pupil; rw [if_pos hb2]
    refine z_iconst C (v := 1) dX6_next_5 (by decide) ?_
    refine z_iconst C (v := 1) dX6_next_6 (by decide) ?_
    refine z_cvi C (As := [_, _, _]) (c_X6_goes) okX6_goes wd652 rc_17 (rok (by decide) (by decide)) ⟨Nat.le_of_ble_eq_true rfl, Nat.le_of_ble_eq_true rfl⟩ rfl (Nat.le_of_ble_eq_true rfl) dX6_next_7 ?_
    rintro r7 _ ⟨rfl, e7⟩
    refine z_if_ne C 15 dX6_next_10 (by decide) (fun c_10 => ?_) (fun c_10 => ?_)
    · exact absurd (e7.trans (by decide)) c_10
    · refine z_iconst C (v := 0) dX6_next_13 (by decide) ?_
      refine z_iret C dX6_next_14 ?_
      exact ⟨by rw [hK]; exact MPost.no hM (by decide), fun a => absurd (a.symm.trans hK) (by decide)⟩
