/-! ===== the reach of a hand ===== -/
theorem bit_tp : ∀ h, h < 32 → ((1 : Int32) <<< (nI h &&& 31)).toBitVec = BitVec.twoPow 32 h := by decide +kernel
theorem bit_zero {x : Int32} {h : Nat} (hh : h < 32) : x &&& (1 <<< (nI h &&& 31)) = 0 ↔ x.toBitVec.getLsbD h = false := by
  rw [← Int32.toBitVec_inj, Int32.toBitVec_and, bit_tp h hh, BitVec.and_twoPow]
  constructor
  · intro q
    cases hx : x.toBitVec.getLsbD h with
    | false => rfl
    | true =>
      rw [hx, if_pos rfl] at q
      have q2 := congrArg (fun b : BitVec 32 => b.getLsbD h) q
      simp [hh] at q2
  · intro q
    rw [q]
    rfl
theorem bit_or {x : Int32} {g h : Nat} (hg : g < 32) (hh : h < 32) : (x ||| (1 <<< (nI g &&& 31))) &&& (1 <<< (nI h &&& 31)) = 0 ↔ (x &&& (1 <<< (nI h &&& 31)) = 0 ∧ g ≠ h) := by
  rw [bit_zero hh, bit_zero hh, Int32.toBitVec_or, bit_tp g hg, BitVec.getLsbD_or, BitVec.getLsbD_twoPow]
  by_cases q : g = h
  · subst q; simp [hg]
  · simp [q]
theorem bit_0 {h : Nat} (hh : h < 32) : (0 : Int32) &&& (1 <<< (nI h &&& 31)) = 0 := by
  rw [bit_zero hh]
  simp
/-- whether note i can be played in the position h -/
noncomputable def Pf (σ : St) (p0 q0 f0 : Nat) (i h : Nat) : Bool := by classical exact decide (1 ≤ h ∧ h + 3 ≤ f0 ∧ lowS (σ 12 p0 i) (σ 14 q0) (nI h) ≠ -1)
theorem Pf_iff {σ : St} {p0 q0 f0 i h : Nat} : Pf σ p0 q0 f0 i h = true ↔ (1 ≤ h ∧ h + 3 ≤ f0 ∧ lowS (σ 12 p0 i) (σ 14 q0) (nI h) ≠ -1) := by
  unfold Pf
  simp
theorem Pf_cong {σ σ' : St} {p0 q0 f0 : Nat} (h1 : ∀ j, σ' 12 p0 j = σ 12 p0 j) (h2 : ∀ j, σ' 14 q0 j = σ 14 q0 j) : Pf σ' p0 q0 f0 = Pf σ p0 q0 f0 := by
  funext i h
  have e : σ' 14 q0 = σ 14 q0 := funext h2
  unfold Pf
  rw [h1, e]
section
variable {p : Program} {l : Launch} {e : Env} {R : Room} {s : State} {m : MethodId} {args : Array Value} {below : List Frame} {meth : Method} {c : Code} {D : va_G} {ad : Nat → Nat → Nat} {cy : Nat → ClassId} {A : Nat → Prop} {sa : Nat → Nat} {cells slots : Nat} {σ : St}
set_option maxRecDepth 100000 in
set_option maxHeartbeats 4000000 in
theorem lp_X0_feelReach_in (C : Cx p l s m args meth c cX0_feelReach "FretSchool$Hand" 6 (none : Option Jvm.ClassFile.FieldType) D ad cy A sa) {p0 q0 n f0 : Nat} (hp0 : p0 < 8) (hq0 : q0 < 8) (hn : σ 11 p0 1 = nI n) (hn16 : n ≤ 16) (hf0 : σ 13 q0 2 = nI f0) (hf4 : 4 ≤ f0) (hf16 : f0 ≤ 16) {x4 : Int32} {j : Nat} (e4 : x4 = nI j) (hj : j < n) {post : St → Prop} (kx : ∀ (σ' : St) (o5 : Option Value), (∀ a b c0, a ≠ 7 → σ' a b c0 = σ a b c0) → (∀ i, i < j + 1 → ∀ h, 1 ≤ h → h ≤ 13 → (σ' 7 0 i &&& (1 <<< (nI h &&& 31)) = 0 ↔ ¬ Pf σ p0 q0 f0 i h = true)) → Z p l e (rmD 1 0) s m args below meth c D ad cy A 6 0 0 (MQ below (va_Qv (post) (Bw D ad cy) A) args s 0 0 A) σ' [some (.ref (ad 6 0)), some (.ref (ad 11 p0)), some (.ref (ad 13 q0)), some (.int (nI (f0 - 3))), some (.int x4), o5] 71 []) : ∀ (f g : Nat) (σ' : St) (x5 : Int32), x5 = nI (g + 1) → g + 3 ≤ f0 → f0 < g + 3 + f → (∀ a b c0, a ≠ 7 → σ' a b c0 = σ a b c0) → (∀ i, i < j → ∀ h, 1 ≤ h → h ≤ 13 → (σ' 7 0 i &&& (1 <<< (nI h &&& 31)) = 0 ↔ ¬ Pf σ p0 q0 f0 i h = true)) → (∀ h, 1 ≤ h → h ≤ 13 → (σ' 7 0 j &&& (1 <<< (nI h &&& 31)) = 0 ↔ ¬ (h ≤ g ∧ Pf σ p0 q0 f0 j h = true))) → Z p l e (rmD 1 0) s m args below meth c D ad cy A 6 0 0 (MQ below (va_Qv (post) (Bw D ad cy) A) args s 0 0 A) σ' [some (.ref (ad 6 0)), some (.ref (ad 11 p0)), some (.ref (ad 13 q0)), some (.int (nI (f0 - 3))), some (.int x4), some (.int x5)] 28 [] := by
  intro f
  induction f with
  | zero => intro g σ' x5 _ _ h; exact absurd h (by omega)
  | succ f ih =>
    intro g σ' x5 e5 hg hf hfr hbits hbj
    refine z_iload C dX0_feelReach_28 rfl ?_
    refine z_iload_n C dX0_feelReach_30 rfl ?_
    refine z_icmp_gt C 71 dX0_feelReach_31 (by decide) (fun c_31 => ?_) (fun c_31 => ?_)
    · have hgf : f0 - 3 < g + 1 := by rw [e5, nI_ltI (by omega) (by omega)] at c_31; exact c_31
      exact kx _ _ hfr (fun i hi h h1 h2 => (Nat.lt_or_ge i j).elim (fun q => hbits i q h h1 h2) (fun q => by
                          rw [show i = j by omega, hbj h h1 h2]
                          constructor
                          · intro a b
                            exact a ⟨by have := (Pf_iff.mp b).2.1; omega, b⟩
                          · intro a b
                            exact a b.2))
    · have hgf : ¬ f0 - 3 < g + 1 := by rw [e5, nI_ltI (by omega) (by omega)] at c_31; exact c_31
      refine z_aload_n C dX0_feelReach_34 rfl ?_
      refine z_aload_n C dX0_feelReach_35 rfl ?_
      refine g_11_0 hp0 C wd43 dX0_feelReach_36 ?_
      refine z_iload C dX0_feelReach_39 rfl ?_
      refine a_12 hp0 C e4 (by omega) dX0_feelReach_41 ?_
      refine z_iload C dX0_feelReach_42 rfl ?_
      refine z_cvi C (As := [_, _]) (c_X1_lowestString hq0) okX1_lowestString wd305 (rc_13 hq0) (rok (by decide) (by decide)) ⟨Nat.le_of_ble_eq_true rfl, Nat.le_of_ble_eq_true rfl⟩ rfl (Nat.le_of_ble_eq_true rfl) dX0_feelReach_44 ?_
      rintro r44 _ ⟨rfl, e44⟩
      refine z_iconst C (v := (-1)) dX0_feelReach_47 (by decide) ?_
      refine z_icmp_eq C 65 dX0_feelReach_48 (by decide) (fun c_48 => ?_) (fun c_48 => ?_)
      · have hno : ¬ Pf σ p0 q0 f0 j (g + 1) = true := by
          intro q
          have h3 := (Pf_iff.mp q).2.2
          rw [← hfr 12 p0 j (by omega), ← (show σ' 14 q0 = σ 14 q0 from funext fun a => hfr 14 q0 a (by omega)), ← e5] at h3
          exact h3 (e44.symm.trans c_48)
        refine z_iinc C (v := 1) dX0_feelReach_65 rfl (by decide) (by decide) ?_
        dsimp only [List.set]
        refine z_goto C 28 dX0_feelReach_68 (by decide) ?_
        refine ih (g + 1) _ _ (by rw [e5]; exact nI_1 (g + 1)) (by omega) (by omega) hfr hbits (fun h h1 h2 => ?_)
        rw [hbj h h1 h2]
        constructor
        · intro a d
          rcases Nat.lt_or_ge g h with q | q
          · exact hno (by rw [← show h = g + 1 by omega]; exact d.2)
          · exact a ⟨q, d.2⟩
        · intro a d
          exact a ⟨by omega, d.2⟩
      · have hyes : Pf σ p0 q0 f0 j (g + 1) = true := by
          refine Pf_iff.mpr ⟨by omega, by omega, ?_⟩
          rw [← hfr 12 p0 j (by omega), ← (show σ' 14 q0 = σ 14 q0 from funext fun a => hfr 14 q0 a (by omega)), ← e5]
          intro q
          exact c_48 (e44.trans q)
        refine z_aload_n C dX0_feelReach_51 rfl ?_
        refine g_6_0 C wd121 dX0_feelReach_52 ?_
        refine z_iload C dX0_feelReach_55 rfl ?_
        refine z_dup2 C dX0_feelReach_57 rfl rfl ?_
        refine a_7 C e4 (by omega) dX0_feelReach_58 ?_
        refine z_iconst C (v := 1) dX0_feelReach_59 (by decide) ?_
        refine z_iload C dX0_feelReach_60 rfl ?_
        refine z_ishl C dX0_feelReach_62 ?_
        refine z_ior C dX0_feelReach_63 ?_
        refine s_7 C e4 (by omega) dX0_feelReach_64 ?_
        refine z_iinc C (v := 1) dX0_feelReach_65 rfl (by decide) (by decide) ?_
        dsimp only [List.set]
        refine z_goto C 28 dX0_feelReach_68 (by decide) ?_
        refine ih (g + 1) _ _ (by rw [e5]; exact nI_1 (g + 1)) (by omega) (by omega) (fun a b c0 ha => by rw [up_app, if_neg (fun q => ha q.1)]; exact hfr a b c0 ha) (fun i hi h h1 h2 => by rw [up_app, if_neg (by omega)]; exact hbits i hi h h1 h2) (fun h h1 h2 => ?_)
        rw [up_app, if_pos ⟨rfl, rfl, rfl⟩, e5, bit_or (by omega) (by omega), hbj h h1 h2]
        constructor
        · rintro ⟨a, b⟩ ⟨d1, d2⟩
          exact a ⟨by omega, d2⟩
        · intro a
          refine ⟨fun d => a ⟨by omega, d.2⟩, fun d => a ⟨by omega, ?_⟩⟩
          rw [← d]
          exact hyes
end
section
variable {p : Program} {l : Launch} {e : Env} {R : Room} {s : State} {m : MethodId} {args : Array Value} {below : List Frame} {meth : Method} {c : Code} {D : va_G} {ad : Nat → Nat → Nat} {cy : Nat → ClassId} {A : Nat → Prop} {sa : Nat → Nat} {cells slots : Nat} {σ : St}
set_option maxRecDepth 100000 in
set_option maxHeartbeats 4000000 in
theorem lp_X0_feelReach (C : Cx p l s m args meth c cX0_feelReach "FretSchool$Hand" 6 (none : Option Jvm.ClassFile.FieldType) D ad cy A sa) {p0 q0 n f0 : Nat} (hp0 : p0 < 8) (hq0 : q0 < 8) (hn : σ 11 p0 1 = nI n) (hn16 : n ≤ 16) (hf0 : σ 13 q0 2 = nI f0) (hf4 : 4 ≤ f0) (hf16 : f0 ≤ 16) : ∀ (f j : Nat) (σ' : St) (x4 : Int32) (o5 : Option Value), x4 = nI j → j ≤ n → n < j + f → (∀ a b c0, a ≠ 7 → σ' a b c0 = σ a b c0) → (∀ i, i < j → ∀ h, 1 ≤ h → h ≤ 13 → (σ' 7 0 i &&& (1 <<< (nI h &&& 31)) = 0 ↔ ¬ Pf σ p0 q0 f0 i h = true)) → Z p l e (rmD 1 0) s m args below meth c D ad cy A 6 0 0 (MQ below (va_Qv (fun σ' => (∀ a b c0, a ≠ 7 → σ' a b c0 = σ a b c0) ∧ ∀ i, i < n → ∀ h, 1 ≤ h → h ≤ 13 → (σ' 7 0 i &&& (1 <<< (nI h &&& 31)) = 0 ↔ ¬ Pf σ p0 q0 f0 i h = true)) (Bw D ad cy) A) args s 0 0 A) σ' [some (.ref (ad 6 0)), some (.ref (ad 11 p0)), some (.ref (ad 13 q0)), some (.int (nI (f0 - 3))), some (.int x4), o5] 8 [] := by
  intro f
  induction f with
  | zero => intro j σ' x4 o5 _ _ h; exact absurd h (by omega)
  | succ f ih =>
    intro j σ' x4 o5 e4 hj hf hfr hbits
    have hn' : σ' 11 p0 1 = nI n := by rw [hfr 11 p0 1 (by omega)]; exact hn
    refine z_iload C dX0_feelReach_8 rfl ?_
    refine z_aload_n C dX0_feelReach_10 rfl ?_
    refine g_11_1 hp0 C wd46 dX0_feelReach_11 ?_
    refine z_icmp_ge C 77 dX0_feelReach_14 (by decide) (fun c_14 => ?_) (fun c_14 => ?_)
    · have hjn : n ≤ j := by rw [hn', e4, nI_leI (by omega) (by omega)] at c_14; exact c_14
      refine z_vret C dX0_feelReach_77 ?_
      exact ⟨hfr, fun i hi => hbits i (by omega)⟩
    · have hjn : j < n := by rw [hn', e4, nI_leI (by omega) (by omega)] at c_14; omega
      refine z_aload_n C dX0_feelReach_17 rfl ?_
      refine g_6_0 C wd121 dX0_feelReach_18 ?_
      refine z_iload C dX0_feelReach_21 rfl ?_
      refine z_iconst C (v := 0) dX0_feelReach_23 (by decide) ?_
      refine s_7 C e4 (by omega) dX0_feelReach_24 ?_
      refine z_iconst C (v := 1) dX0_feelReach_25 (by decide) ?_
      refine z_istore C dX0_feelReach_26 (by decide) ?_
      dsimp only [List.set]
      refine lp_X0_feelReach_in C hp0 hq0 hn hn16 hf0 hf4 hf16 e4 hjn (fun σ2 o5 hfr2 hbits2 => ?_) 20 0 _ _ rfl (by omega) (by omega) (fun a b c0 ha => by rw [up_app, if_neg (fun q => ha q.1)]; exact hfr a b c0 ha) (fun i hi h h1 h2 => by rw [up_app, if_neg (by omega)]; exact hbits i hi h h1 h2) (fun h h1 h2 => ?_)
      · refine z_iinc C (v := 1) dX0_feelReach_71 rfl (by decide) (by decide) ?_
        dsimp only [List.set]
        refine z_goto C 8 dX0_feelReach_74 (by decide) ?_
        exact ih (j + 1) _ _ _ (by rw [e4]; exact nI_1 j) (by omega) (by omega) hfr2 hbits2
      · rw [up_app, if_pos ⟨rfl, rfl, rfl⟩]
        exact ⟨fun _ d => by omega, fun _ => bit_0 (by omega)⟩
end
set_option maxRecDepth 100000 in
set_option maxHeartbeats 4000000 in
theorem c_X0_feelReach {l : Launch} {D : va_G} {ad : Nat → Nat → Nat} {cy : Nat → ClassId} {A : Nat → Prop} {sa : Nat → Nat} {σ : St} {p0 q0 n f0 : Nat} (hp0 : p0 < 8) (hq0 : q0 < 8) (hn : σ 11 p0 1 = nI n) (hn16 : n ≤ 16) (hf0 : σ 13 q0 2 = nI f0) (hf4 : 4 ≤ f0) (hf16 : f0 ≤ 16) : MV l D ad cy A sa yX0_feelReach cX0_feelReach 6 (none : Option Jvm.ClassFile.FieldType) 1 σ [.ref (ad 6 0), .ref (ad 11 p0), .ref (ad 13 q0)] (fun σ' => (∀ a b c0, a ≠ 7 → σ' a b c0 = σ a b c0) ∧ ∀ i, i < n → ∀ h, 1 ≤ h → h ≤ 13 → (σ' 7 0 i &&& (1 <<< (nI h &&& 31)) = 0 ↔ ¬ Pf σ p0 q0 f0 i h = true)) := by
  refine MV.mk "FretSchool$Hand" (by decide) rfl (Nat.le_of_ble_eq_true rfl) rfl ?_
  intro p e s m args below meth c C
  change Z _ _ _ _ _ _ _ _ _ _ _ _ _ _ _ _ _ _ _ [some (.ref (ad 6 0)), some (.ref (ad 11 p0)), some (.ref (ad 13 q0)), none, none, none] 0 []
  refine z_aload_n C dX0_feelReach_0 rfl ?_
  refine z_cvi C (As := []) (c_X1_highestPosition hq0) okX1_highestPosition wd301 (rc_13 hq0) (rok (by decide) (by decide)) ⟨Nat.le_of_ble_eq_true rfl, Nat.le_of_ble_eq_true rfl⟩ rfl (Nat.le_of_ble_eq_true rfl) dX0_feelReach_1 ?_
  rintro r1 _ ⟨e1, rfl⟩
  obtain rfl : r1 = nI (f0 - 3) := by rw [e1, hf0, show (3 : Int32) = nI 3 from rfl, pk_sub (by omega)]
  refine z_istore_n C dX0_feelReach_4 (by decide) ?_
  dsimp only [List.set]
  refine z_iconst C (v := 0) dX0_feelReach_5 (by decide) ?_
  refine z_istore C dX0_feelReach_6 (by decide) ?_
  dsimp only [List.set]
  exact lp_X0_feelReach C hp0 hq0 hn hn16 hf0 hf4 hf16 (n + 1) 0 _ _ _ nI_0.symm (by omega) (by omega) (fun _ _ _ _ => rfl) (fun i hi => absurd hi (by omega))
