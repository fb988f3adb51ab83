/-! ===== nexts ===== -/
theorem hd_level : yL_level.cls ≠ "java/lang/invoke/MethodHandle" ∧ yL_level.cls ≠ "java/lang/invoke/VarHandle" ∧ (parseMethodDescriptor yL_level.desc).map (fun d => d.parameters.length) = some 2 := by decide +kernel
theorem hd_known : yL_known.cls ≠ "java/lang/invoke/MethodHandle" ∧ yL_known.cls ≠ "java/lang/invoke/VarHandle" ∧ (parseMethodDescriptor yL_known.desc).map (fun d => d.parameters.length) = some 2 := by decide +kernel
theorem hd_next : yL_next.cls ≠ "java/lang/invoke/MethodHandle" ∧ yL_next.cls ≠ "java/lang/invoke/VarHandle" ∧ (parseMethodDescriptor yL_next.desc).map (fun d => d.parameters.length) = some 2 := by decide +kernel
theorem hd_pitch : yL_pitch.cls ≠ "java/lang/invoke/MethodHandle" ∧ yL_pitch.cls ≠ "java/lang/invoke/VarHandle" ∧ (parseMethodDescriptor yL_pitch.desc).map (fun d => d.parameters.length) = some 3 := by decide +kernel
theorem hd_shifts : yL_shifts.cls ≠ "java/lang/invoke/MethodHandle" ∧ yL_shifts.cls ≠ "java/lang/invoke/VarHandle" ∧ (parseMethodDescriptor yL_shifts.desc).map (fun d => d.parameters.length) = some 3 := by decide +kernel
theorem hd_hardest : yL_hardest.cls ≠ "java/lang/invoke/MethodHandle" ∧ yL_hardest.cls ≠ "java/lang/invoke/VarHandle" ∧ (parseMethodDescriptor yL_hardest.desc).map (fun d => d.parameters.length) = some 3 := by decide +kernel
theorem hd_position : yL_position.cls ≠ "java/lang/invoke/MethodHandle" ∧ yL_position.cls ≠ "java/lang/invoke/VarHandle" ∧ (parseMethodDescriptor yL_position.desc).map (fun d => d.parameters.length) = some 4 := by decide +kernel
theorem hd_string : yL_string.cls ≠ "java/lang/invoke/MethodHandle" ∧ yL_string.cls ≠ "java/lang/invoke/VarHandle" ∧ (parseMethodDescriptor yL_string.desc).map (fun d => d.parameters.length) = some 4 := by decide +kernel
theorem hd_shiftsByAll : yL_shiftsByAll.cls ≠ "java/lang/invoke/MethodHandle" ∧ yL_shiftsByAll.cls ≠ "java/lang/invoke/VarHandle" ∧ (parseMethodDescriptor yL_shiftsByAll.desc).map (fun d => d.parameters.length) = some 3 := by decide +kernel
theorem hd_begin : yL_begin.cls ≠ "java/lang/invoke/MethodHandle" ∧ yL_begin.cls ≠ "java/lang/invoke/VarHandle" ∧ (parseMethodDescriptor yL_begin.desc).map (fun d => d.parameters.length) = some 1 := by decide +kernel
theorem hd_addNote : yL_addNote.cls ≠ "java/lang/invoke/MethodHandle" ∧ yL_addNote.cls ≠ "java/lang/invoke/VarHandle" ∧ (parseMethodDescriptor yL_addNote.desc).map (fun d => d.parameters.length) = some 3 := by decide +kernel
theorem hd_transpose : yL_transpose.cls ≠ "java/lang/invoke/MethodHandle" ∧ yL_transpose.cls ≠ "java/lang/invoke/VarHandle" ∧ (parseMethodDescriptor yL_transpose.desc).map (fun d => d.parameters.length) = some 3 := by decide +kernel
theorem hd_addWood : yL_addWood.cls ≠ "java/lang/invoke/MethodHandle" ∧ yL_addWood.cls ≠ "java/lang/invoke/VarHandle" ∧ (parseMethodDescriptor yL_addWood.desc).map (fun d => d.parameters.length) = some 3 := by decide +kernel
theorem hd_ready : yL_ready.cls ≠ "java/lang/invoke/MethodHandle" ∧ yL_ready.cls ≠ "java/lang/invoke/VarHandle" ∧ (parseMethodDescriptor yL_ready.desc).map (fun d => d.parameters.length) = some 2 := by decide +kernel
theorem hd_order : yL_order.cls ≠ "java/lang/invoke/MethodHandle" ∧ yL_order.cls ≠ "java/lang/invoke/VarHandle" ∧ (parseMethodDescriptor yL_order.desc).map (fun d => d.parameters.length) = some 4 := by decide +kernel
theorem hd_pass : yL_pass.cls ≠ "java/lang/invoke/MethodHandle" ∧ yL_pass.cls ≠ "java/lang/invoke/VarHandle" ∧ (parseMethodDescriptor yL_pass.desc).map (fun d => d.parameters.length) = some 2 := by decide +kernel
theorem hd_fetch : yL_fetch.cls ≠ "java/lang/invoke/MethodHandle" ∧ yL_fetch.cls ≠ "java/lang/invoke/VarHandle" ∧ (parseMethodDescriptor yL_fetch.desc).map (fun d => d.parameters.length) = some 6 := by decide +kernel
theorem hd_owner : yL_owner.cls ≠ "java/lang/invoke/MethodHandle" ∧ yL_owner.cls ≠ "java/lang/invoke/VarHandle" ∧ (parseMethodDescriptor yL_owner.desc).map (fun d => d.parameters.length) = some 2 := by decide +kernel
theorem hd_tune : yL_tune.cls ≠ "java/lang/invoke/MethodHandle" ∧ yL_tune.cls ≠ "java/lang/invoke/VarHandle" ∧ (parseMethodDescriptor yL_tune.desc).map (fun d => d.parameters.length) = some 4 := by decide +kernel
theorem hd_learn : yL_learn.cls ≠ "java/lang/invoke/MethodHandle" ∧ yL_learn.cls ≠ "java/lang/invoke/VarHandle" ∧ (parseMethodDescriptor yL_learn.desc).map (fun d => d.parameters.length) = some 4 := by decide +kernel
theorem lsN_no {σ : St} {w j q : Nat} (h : ¬ (σ 13 q 1 = nI w ∧ PL σ j q ∧ ¬ σ 15 w 0 < nI (HG σ j q))) : lsN σ w j q = 100 := if_neg h
theorem lsN_yes {σ : St} {w j q : Nat} (h1 : σ 13 q 1 = nI w) (h2 : PL σ j q) (h3 : ¬ σ 15 w 0 < nI (HG σ j q)) : lsN σ w j q = HG σ j q := if_pos ⟨h1, h2, h3⟩
noncomputable def mI (σ : St) (w ni j q : Nat) : Nat := by classical exact if frN σ w j ∧ esN σ w j q < ezN σ w ni j then esN σ w j q else ezN σ w ni j
noncomputable def kI (σ : St) (w ni j q : Nat) : Nat := by classical exact if frN σ w j ∧ esN σ w j q < ezN σ w ni j then j else bsN σ w ni j
theorem mI_le (σ : St) (w ni j q : Nat) : mI σ w ni j q = 100 ∨ mI σ w ni j q < 13 := by
  have h1 := esN_or σ w j q
  have h2 := ezN_or σ w ni j
  unfold mI
  split <;> omega
theorem mI_0 (σ : St) (w ni j : Nat) : mI σ w ni j 0 = ezN σ w ni j ∧ kI σ w ni j 0 = bsN σ w ni j := by
  have h2 := ezN_or σ w ni j
  have h : ¬ (frN σ w j ∧ esN σ w j 0 < ezN σ w ni j) := fun h => by
    have : esN σ w j 0 = 100 := rfl
    omega
  exact ⟨if_neg h, if_neg h⟩
theorem mI_yes {σ : St} {w ni j q : Nat} (hf : frN σ w j) (h : lsN σ w j q < mI σ w ni j q) : mI σ w ni j (q + 1) = lsN σ w j q ∧ kI σ w ni j (q + 1) = j := by
  have e1 : esN σ w j (q + 1) = if lsN σ w j q < esN σ w j q then lsN σ w j q else esN σ w j q := rfl
  unfold mI at h
  unfold mI kI
  by_cases hc : frN σ w j ∧ esN σ w j q < ezN σ w ni j
  · rw [if_pos hc] at h
    have hc2 : frN σ w j ∧ lsN σ w j q < ezN σ w ni j := ⟨hf, by omega⟩
    rw [e1, if_pos h, if_pos hc2, if_pos hc2]
    exact ⟨rfl, rfl⟩
  · rw [if_neg hc] at h
    have : ¬ esN σ w j q < ezN σ w ni j := fun q => hc ⟨hf, q⟩
    have hc2 : frN σ w j ∧ lsN σ w j q < ezN σ w ni j := ⟨hf, h⟩
    have hc3 : lsN σ w j q < esN σ w j q := by omega
    rw [e1, if_pos hc3, if_pos hc2, if_pos hc2]
    exact ⟨rfl, rfl⟩
theorem mI_no {σ : St} {w ni j q : Nat} (h : ¬ (frN σ w j ∧ lsN σ w j q < mI σ w ni j q)) : mI σ w ni j (q + 1) = mI σ w ni j q ∧ kI σ w ni j (q + 1) = kI σ w ni j q := by
  have e1 : esN σ w j (q + 1) = if lsN σ w j q < esN σ w j q then lsN σ w j q else esN σ w j q := rfl
  by_cases hf : frN σ w j
  · have h' : ¬ lsN σ w j q < mI σ w ni j q := fun q => h ⟨hf, q⟩
    unfold mI at h'
    unfold mI kI
    by_cases hc : frN σ w j ∧ esN σ w j q < ezN σ w ni j
    · rw [if_pos hc] at h'
      rw [e1, if_neg h', if_pos hc, if_pos hc]
      exact ⟨rfl, rfl⟩
    · rw [if_neg hc] at h'
      have h2 : ¬ esN σ w j q < ezN σ w ni j := fun q => hc ⟨hf, q⟩
      have h3 : ¬ (frN σ w j ∧ esN σ w j (q + 1) < ezN σ w ni j) := fun h => by
        have := h.2
        rw [e1] at this
        split at this <;> omega
      rw [if_neg hc, if_neg hc, if_neg h3, if_neg h3]
      exact ⟨rfl, rfl⟩
  · unfold mI kI
    have hc : ∀ X : Prop, ¬ (frN σ w j ∧ X) := fun X h => hf h.1
    rw [if_neg (hc _), if_neg (hc _), if_neg (hc _), if_neg (hc _)]
    exact ⟨rfl, rfl⟩
theorem mI_end (σ : St) (w ni j : Nat) : mI σ w ni j ni = ezN σ w ni (j + 1) ∧ kI σ w ni j ni = bsN σ w ni (j + 1) := by
  have e1 : ezN σ w ni (j + 1) = if nsN σ w ni j < ezN σ w ni j then nsN σ w ni j else ezN σ w ni j := rfl
  have e2 : bsN σ w ni (j + 1) = if nsN σ w ni j < ezN σ w ni j then j else bsN σ w ni j := rfl
  have h2 := ezN_or σ w ni j
  rw [e1, e2]
  unfold mI kI nsN
  by_cases hf : frN σ w j
  · rw [if_pos hf]
    by_cases h : esN σ w j ni < ezN σ w ni j
    · have hc : frN σ w j ∧ esN σ w j ni < ezN σ w ni j := ⟨hf, h⟩
      rw [if_pos hc, if_pos hc, if_pos h, if_pos h]; exact ⟨rfl, rfl⟩
    · have hc : ¬ (frN σ w j ∧ esN σ w j ni < ezN σ w ni j) := fun q => h q.2
      rw [if_neg hc, if_neg hc, if_neg h, if_neg h]; exact ⟨rfl, rfl⟩
  · have hc : ¬ (frN σ w j ∧ esN σ w j ni < ezN σ w ni j) := fun q => hf q.1
    have h100 : ¬ 100 < ezN σ w ni j := by omega
    rw [if_neg hf, if_neg hc, if_neg hc, if_neg h100, if_neg h100]; exact ⟨rfl, rfl⟩
section
variable {p : Program} {l : Launch} {e : Env} {R : Room} {s : State} {m : MethodId} {args : Array Value} {below : List Frame} {meth : Method} {c : Code} {D : va_G} {ad : Nat → Nat → Nat} {cy : Nat → ClassId} {A : Nat → Prop} {sa : Nat → Nat} {cells slots : Nat} {σ : St}
set_option maxRecDepth 100000 in
set_option maxHeartbeats 4000000 in
theorem lp_nexts_in (C : Cx p l s m args meth c cL_nexts "FretSchoolLaw" 9 (some .boolean) D ad cy A sa) {T : Nat} {σ : St} (hI : LInv T σ) {w np ni : Nat} (hw : w < 5) (enp : σ 0 0 6 = nI np) (hnp : np ≤ 8) (eni : σ 0 0 7 = nI ni) (hni : ni ≤ 8) {M : Nat} {Q : State → Prop} {B : Nat} (hBM : B ≤ M) {j : Nat} (hj : j < np) (kx : ∀ (τ : St) (x4 x5 : Int32) (o7 o8 : Option Value) (cells slots : Nat), SameC σ τ → x4 = bvN (ezN σ w ni (j + 1)) (bsN σ w ni (j + 1)) → x5 = nI (ezN σ w ni (j + 1)) → cells ≤ B → slots ≤ 6 * B → Z p l e (rmD 10 M) s m args below meth c D ad cy A 9 (cells) (slots) (Q) τ [some (.ref (ad 0 0)), some (.ref (ad 19 0)), some (.ref (ad 22 0)), some (.int (nI w)), some (.int x4), some (.int x5), some (.int (nI j)), o7, o8] 99 []) : ∀ (f q : Nat) (τ : St) (x4 x5 : Int32) (o8 : Option Value) {cells slots : Nat}, q ≤ ni → ni < q + f → SameC σ τ → x4 = bvN (mI σ w ni j q) (kI σ w ni j q) → x5 = nI (mI σ w ni j q) → cells + 4 * f ≤ B → slots + 24 * f ≤ 6 * B → Z p l e (rmD 10 M) s m args below meth c D ad cy A 9 (cells) (slots) (Q) τ [some (.ref (ad 0 0)), some (.ref (ad 19 0)), some (.ref (ad 22 0)), some (.int (nI w)), some (.int x4), some (.int x5), some (.int (nI j)), some (.int (nI q)), o8] 21 [] := by
  intro f
  induction f with
  | zero => intro q τ x4 x5 o8 cells slots _ h; exact absurd h (by omega)
  | succ f ih =>
    intro q τ x4 x5 o8 cells slots hq hf hτ e4 e5 hc1 hc2
    refine z_iload C dL_nexts_21 rfl ?_
    refine z_aload_n C dL_nexts_23 rfl ?_
    refine z_iconst C (v := 1) dL_nexts_24 (by decide) ?_
    refine a_22 C (j := 1) (by decide) (by decide) dL_nexts_25 ?_
    rw [hτ.k 22 0 1 (by decide), hI.2.1.2.1, eni]
    refine z_icmp_ge C 99 dL_nexts_26 (by decide) (fun c_26 => ?_) (fun c_26 => ?_)
    · have hqn : q = ni := by rw [nI_leI (by omega) (by omega)] at c_26; omega
      subst hqn
      obtain ⟨m1, m2⟩ := mI_end σ w q j
      exact kx τ x4 x5 _ _ _ _ hτ (by rw [← m1, ← m2]; exact e4) (by rw [← m1]; exact e5) (by omega) (by omega)
    · have hqn : q < ni := by rw [nI_leI (by omega) (by omega)] at c_26; omega
      obtain ⟨wq, hwq, e13, ef⟩ := hI.2.2.2.2.2.2.1 q (by omega) (by rw [eni]; exact nI_lt hqn (by omega))
      obtain ⟨_, hf4, hf16⟩ := hI.1.fr (q := q) (by omega) (by rw [eni]; exact nI_lt hqn (by omega))
      refine z_aload_n C dL_nexts_29 rfl ?_
      refine z_iload C dL_nexts_30 rfl ?_
      refine a_19 C (j := q) rfl (by omega) dL_nexts_32 ?_
      rw [hτ.k 19 0 q (by decide), ef]
      refine z_bipush C (v := 32) dL_nexts_33 (by decide) ?_
      refine z_idiv C (by decide) dL_nexts_35 ?_
      rw [div32 (by omega) (by omega)]
      refine z_iload_n C dL_nexts_36 rfl ?_
      refine z_icmp_ne C 93 dL_nexts_37 (by decide) (fun c_37 => ?_) (fun c_37 => ?_)
      · have hown : ¬ σ 13 q 1 = nI w := by rw [e13]; exact c_37
        refine z_iinc C (v := 1) dL_nexts_93 rfl (by decide) (by decide) ?_
        dsimp only [List.set]
        refine z_goto C 21 dL_nexts_96 (by decide) ?_
        have mle := mI_le σ w ni j q
        rw [nI_1 q]
        obtain ⟨m1, m2⟩ := mI_no (σ := σ) (w := w) (ni := ni) (j := j) (q := q) (fun h => by have := h.2; rw [lsN_no (fun z => hown z.1)] at this; omega)
        exact ih (q + 1) _ _ _ _ (by omega) (by omega) hτ (by rw [m1, m2]; exact e4) (by rw [m1]; exact e5) (by omega) (by omega)
      · have hown : σ 13 q 1 = nI w := by rw [e13]; exact c_37
        refine z_aload_n C dL_nexts_40 rfl ?_
        refine z_iload_n C dL_nexts_41 rfl ?_
        refine z_csw C (As := [_, _]) (c_L_known) wd268 wd13 wd269 hd_known wd267 (rok (by decide) (by decide)) ⟨by show _ ≤ M; omega, by show _ ≤ 6 * (M); omega⟩ rfl (Nat.le_of_ble_eq_true rfl) dL_nexts_42 ?_
        intro r42 τ h42
        obtain ⟨hτ, rfl⟩ := S_pup 1 hτ h42 hw
        refine z_iload C dL_nexts_45 rfl ?_
        refine z_ishr C dL_nexts_47 ?_
        refine z_iconst C (v := 1) dL_nexts_48 (by decide) ?_
        refine z_iand C dL_nexts_49 ?_
        refine z_if_ne C 93 dL_nexts_50 (by decide) (fun c_50 => ?_) (fun c_50 => ?_)
        · have hfr : ¬ frN σ w j := fun h => c_50 ((shr_bit (by omega)).mpr h)
          refine z_iinc C (v := 1) dL_nexts_93 rfl (by decide) (by decide) ?_
          dsimp only [List.set]
          refine z_goto C 21 dL_nexts_96 (by decide) ?_
          have mle := mI_le σ w ni j q
          rw [nI_1 q]
          obtain ⟨m1, m2⟩ := mI_no (σ := σ) (w := w) (ni := ni) (j := j) (q := q) (fun h => hfr h.1)
          exact ih (q + 1) _ _ _ _ (by omega) (by omega) hτ (by rw [m1, m2]; exact e4) (by rw [m1]; exact e5) (by omega) (by omega)
        · have hfr : frN σ w j := (shr_bit (by omega)).mp c_50
          refine z_aload_n C dL_nexts_53 rfl ?_
          refine z_iload C dL_nexts_54 rfl ?_
          refine z_iload C dL_nexts_56 rfl ?_
          refine z_csw C (As := [_, _, _]) (c_L_hardest (hτ.inv hI.1)) wd391 wd13 wd392 hd_hardest wd390 (rok (by decide) (by decide)) ⟨by show _ ≤ M; omega, by show _ ≤ 6 * (M); omega⟩ rfl (Nat.le_of_ble_eq_true rfl) dL_nexts_58 ?_
          intro r58 τ h58
          obtain ⟨hτ, e58⟩ := S_hard hτ h58 (by rw [enp]; exact ok_nI hj (by omega)) (by rw [eni]; exact ok_nI hqn (by omega))
          rw [ix_nI (by omega), ix_nI (by omega)] at e58
          subst e58
          refine z_istore C dL_nexts_61 (by decide) ?_
          dsimp only [List.set]
          refine z_iload C dL_nexts_63 rfl ?_
          refine z_if_lt C 93 dL_nexts_65 (by decide) (fun c_65 => ?_) (fun c_65 => ?_)
          · have hpl : ¬ PL σ j q := fun h => by
              have e : valH σ j q = nI (HG σ j q) := if_pos h
              have := HG_lt h
              rw [e] at c_65
              exact nI_pos (by omega) c_65
            refine z_iinc C (v := 1) dL_nexts_93 rfl (by decide) (by decide) ?_
            dsimp only [List.set]
            refine z_goto C 21 dL_nexts_96 (by decide) ?_
            have mle := mI_le σ w ni j q
            rw [nI_1 q]
            obtain ⟨m1, m2⟩ := mI_no (σ := σ) (w := w) (ni := ni) (j := j) (q := q) (fun h => by have := h.2; rw [lsN_no (fun z => hpl z.2.1)] at this; omega)
            exact ih (q + 1) _ _ _ _ (by omega) (by omega) hτ (by rw [m1, m2]; exact e4) (by rw [m1]; exact e5) (by omega) (by omega)
          · have hpl : PL σ j q := Classical.byContradiction fun h => by
              have e : valH σ j q = -1 := if_neg h
              rw [e] at c_65
              exact c_65 (by decide)
            have evh : valH σ j q = nI (HG σ j q) := if_pos hpl
            have hh := HG_lt hpl
            refine z_iload C dL_nexts_68 rfl ?_
            refine z_aload_n C dL_nexts_70 rfl ?_
            refine z_iload_n C dL_nexts_71 rfl ?_
            refine z_csw C (As := [_, _]) (c_L_level) wd185 wd13 wd186 hd_level wd184 (rok (by decide) (by decide)) ⟨by show _ ≤ M; omega, by show _ ≤ 6 * (M); omega⟩ rfl (Nat.le_of_ble_eq_true rfl) dL_nexts_72 ?_
            intro r72 τ h72
            obtain ⟨hτ, rfl⟩ := S_pup 0 hτ h72 hw
            refine z_icmp_gt C 93 dL_nexts_75 (by decide) (fun c_75 => ?_) (fun c_75 => ?_)
            · rw [evh] at c_75
              have hlv : σ 15 w 0 < nI (HG σ j q) := c_75
              refine z_iinc C (v := 1) dL_nexts_93 rfl (by decide) (by decide) ?_
              dsimp only [List.set]
              refine z_goto C 21 dL_nexts_96 (by decide) ?_
              have mle := mI_le σ w ni j q
              rw [nI_1 q]
              obtain ⟨m1, m2⟩ := mI_no (σ := σ) (w := w) (ni := ni) (j := j) (q := q) (fun h => by have := h.2; rw [lsN_no (fun z => z.2.2 hlv)] at this; omega)
              exact ih (q + 1) _ _ _ _ (by omega) (by omega) hτ (by rw [m1, m2]; exact e4) (by rw [m1]; exact e5) (by omega) (by omega)
            · rw [evh] at c_75
              have hlv : ¬ σ 15 w 0 < nI (HG σ j q) := c_75
              refine z_iload C dL_nexts_78 rfl ?_
              refine z_iload C dL_nexts_80 rfl ?_
              refine z_icmp_ge C 93 dL_nexts_82 (by decide) (fun c_82 => ?_) (fun c_82 => ?_)
              · have mle0 := mI_le σ w ni j q
                have hlt : mI σ w ni j q ≤ HG σ j q := by rw [evh, e5, nI_leI (by omega) (by omega)] at c_82; exact c_82
                refine z_iinc C (v := 1) dL_nexts_93 rfl (by decide) (by decide) ?_
                dsimp only [List.set]
                refine z_goto C 21 dL_nexts_96 (by decide) ?_
                have mle := mI_le σ w ni j q
                rw [nI_1 q]
                obtain ⟨m1, m2⟩ := mI_no (σ := σ) (w := w) (ni := ni) (j := j) (q := q) (fun h => by have := h.2; rw [lsN_yes hown hpl hlv] at this; omega)
                exact ih (q + 1) _ _ _ _ (by omega) (by omega) hτ (by rw [m1, m2]; exact e4) (by rw [m1]; exact e5) (by omega) (by omega)
              · have mle0 := mI_le σ w ni j q
                have hlt : HG σ j q < mI σ w ni j q := by rw [evh, e5, nI_leI (by omega) (by omega)] at c_82; omega
                refine z_iload C dL_nexts_85 rfl ?_
                refine z_istore C dL_nexts_87 (by decide) ?_
                dsimp only [List.set]
                refine z_iload C dL_nexts_89 rfl ?_
                refine z_istore C dL_nexts_91 (by decide) ?_
                dsimp only [List.set]
                refine z_iinc C (v := 1) dL_nexts_93 rfl (by decide) (by decide) ?_
                dsimp only [List.set]
                refine z_goto C 21 dL_nexts_96 (by decide) ?_
                have mle := mI_le σ w ni j q
                rw [nI_1 q]
                obtain ⟨m1, m2⟩ := mI_yes hfr (show lsN σ w j q < mI σ w ni j q by rw [lsN_yes hown hpl hlv]; exact hlt)
                exact ih (q + 1) _ _ _ _ (by omega) (by omega) hτ (by rw [m1, m2, lsN_yes hown hpl hlv]; unfold bvN; rw [if_neg (by omega)]) (by rw [m1, lsN_yes hown hpl hlv, evh]) (by omega) (by omega)
end
section
variable {p : Program} {l : Launch} {e : Env} {R : Room} {s : State} {m : MethodId} {args : Array Value} {below : List Frame} {meth : Method} {c : Code} {D : va_G} {ad : Nat → Nat → Nat} {cy : Nat → ClassId} {A : Nat → Prop} {sa : Nat → Nat} {cells slots : Nat} {σ : St}
set_option maxRecDepth 100000 in
set_option maxHeartbeats 4000000 in
theorem lp_nexts_out (C : Cx p l s m args meth c cL_nexts "FretSchoolLaw" 9 (some .boolean) D ad cy A sa) {T : Nat} {σ : St} (hI : LInv T σ) {w np ni : Nat} (hw : w < 5) (enp : σ 0 0 6 = nI np) (hnp : np ≤ 8) (eni : σ 0 0 7 = nI ni) (hni : ni ≤ 8) {M : Nat} {Q : State → Prop} {B : Nat} (hBM : B ≤ M) (kx : ∀ (τ : St) (x4 x5 : Int32) (j : Nat) (o7 o8 : Option Value) (cells slots : Nat), SameC σ τ → x4 = bvN (ezN σ w ni np) (bsN σ w ni np) → cells ≤ B → slots ≤ 6 * B → Z p l e (rmD 10 M) s m args below meth c D ad cy A 9 (cells) (slots) (Q) τ [some (.ref (ad 0 0)), some (.ref (ad 19 0)), some (.ref (ad 22 0)), some (.int (nI w)), some (.int x4), some (.int x5), some (.int (nI j)), o7, o8] 105 []) : ∀ (f j : Nat) (τ : St) (x4 x5 : Int32) (o7 o8 : Option Value) {cells slots : Nat}, j ≤ np → np < j + f → SameC σ τ → x4 = bvN (ezN σ w ni j) (bsN σ w ni j) → x5 = nI (ezN σ w ni j) → cells + 40 * f ≤ B → slots + 240 * f ≤ 6 * B → Z p l e (rmD 10 M) s m args below meth c D ad cy A 9 (cells) (slots) (Q) τ [some (.ref (ad 0 0)), some (.ref (ad 19 0)), some (.ref (ad 22 0)), some (.int (nI w)), some (.int x4), some (.int x5), some (.int (nI j)), o7, o8] 10 [] := by
  intro f
  induction f with
  | zero => intro j τ x4 x5 o7 o8 cells slots _ h; exact absurd h (by omega)
  | succ f ih =>
    intro j τ x4 x5 o7 o8 cells slots hq hf hτ e4 e5 hc1 hc2
    refine z_iload C dL_nexts_10 rfl ?_
    refine z_aload_n C dL_nexts_12 rfl ?_
    refine z_iconst C (v := 0) dL_nexts_13 (by decide) ?_
    refine a_22 C (j := 0) (by decide) (by decide) dL_nexts_14 ?_
    rw [hτ.k 22 0 0 (by decide), hI.2.1.1, enp]
    refine z_icmp_ge C 105 dL_nexts_15 (by decide) (fun c_15 => ?_) (fun c_15 => ?_)
    · have hqn : j = np := by rw [nI_leI (by omega) (by omega)] at c_15; omega
      subst hqn
      exact kx τ x4 x5 _ _ _ _ _ hτ e4 (by omega) (by omega)
    · have hqn : j < np := by rw [nI_leI (by omega) (by omega)] at c_15; omega
      refine z_iconst C (v := 0) dL_nexts_18 (by decide) ?_
      refine z_istore C dL_nexts_19 (by decide) ?_
      dsimp only [List.set]
      obtain ⟨m1, m2⟩ := mI_0 σ w ni j
      refine lp_nexts_in C hI hw enp hnp eni hni (B := B - 40 * f) (by omega) hqn (fun τ x4 x5 o7 o8 cells slots hτ e4 e5 hc1 hc2 => ?_) (ni + 1) 0 τ x4 x5 o8 (by omega) (by omega) hτ (by rw [m1, m2]; exact e4) (by rw [m1]; exact e5) (by omega) (by omega)
      refine z_iinc C (v := 1) dL_nexts_99 rfl (by decide) (by decide) ?_
      dsimp only [List.set]
      refine z_goto C 10 dL_nexts_102 (by decide) ?_
      rw [nI_1 j]
      exact ih (j + 1) τ x4 x5 _ _ (by omega) (by omega) hτ e4 e5 (by omega) (by omega)
end
set_option maxRecDepth 100000 in
set_option maxHeartbeats 4000000 in
theorem c_L_nexts {l : Launch} {D : va_G} {ad : Nat → Nat → Nat} {cy : Nat → ClassId} {A : Nat → Prop} {sa : Nat → Nat} {σ : St} {T : Nat} (hI : LInv T σ) {w : Nat} (hw : w < 5) : MK l D ad cy A sa yL_nexts cL_nexts 9 (some .boolean) 10 400 σ [.ref (ad 0 0), .ref (ad 19 0), .ref (ad 22 0), .int (nI w)] (fun r σ' => r = 1 ∧ SameC σ σ') := by
  refine MK.mk "FretSchoolLaw" (by decide) rfl (Nat.le_of_ble_eq_true rfl) rfl ?_
  intro p e s m args below meth c C
  change Z _ _ _ _ _ _ _ _ _ _ _ _ _ _ _ _ _ _ _ [some (.ref (ad 0 0)), some (.ref (ad 19 0)), some (.ref (ad 22 0)), some (.int (nI w)), none, none, none, none, none] 0 []
  obtain ⟨np, hnp, enp⟩ := hI.1.1
  obtain ⟨ni, hni, eni⟩ := hI.1.2.1
  refine z_iconst C (v := (-1)) dL_nexts_0 (by decide) ?_
  refine z_istore C dL_nexts_1 (by decide) ?_
  dsimp only [List.set]
  refine z_bipush C (v := 100) dL_nexts_3 (by decide) ?_
  refine z_istore C dL_nexts_5 (by decide) ?_
  dsimp only [List.set]
  refine z_iconst C (v := 0) dL_nexts_7 (by decide) ?_
  refine z_istore C dL_nexts_8 (by decide) ?_
  dsimp only [List.set]
  refine lp_nexts_out C hI hw enp hnp eni hni (B := 360) (by omega) (fun τ x4 x5 j o7 o8 cells slots hτ e4 hc1 hc2 => ?_) (np + 1) 0 σ _ _ _ _ (by omega) (by omega) SameC.rf rfl rfl (by omega) (by omega)
  refine z_aload_n C dL_nexts_105 rfl ?_
  refine z_iload_n C dL_nexts_106 rfl ?_
  refine z_csw C (As := [_, _]) (c_L_next (hτ.inv hI.1)) wd275 wd13 wd276 hd_next wd274 (rok (by decide) (by decide)) ⟨by show _ ≤ 400; omega, by show _ ≤ 6 * (400); omega⟩ rfl (Nat.le_of_ble_eq_true rfl) dL_nexts_107 ?_
  intro r107 τ h107
  obtain ⟨hτ, rfl⟩ := S_next hτ h107 hw eni enp (by omega) (by omega)
  refine z_iload C dL_nexts_110 rfl ?_
  refine z_icmp_ne C 211 dL_nexts_112 (by decide) (fun c_112 => ?_) (fun c_112 => ?_)
  · exact absurd (((nxV_N hw np hnp).1).trans e4.symm) c_112
  refine z_aload_n C dL_nexts_115 rfl ?_
  refine z_iconst C (v := 5) dL_nexts_116 (by decide) ?_
  refine z_csw C (As := [_, _]) (c_L_next (hτ.inv hI.1)) wd275 wd13 wd276 hd_next wd274 (rok (by decide) (by decide)) ⟨by show _ ≤ 400; omega, by show _ ≤ 6 * (400); omega⟩ rfl (Nat.le_of_ble_eq_true rfl) dL_nexts_117 ?_
  intro r117 τ h117
  obtain ⟨hτ, rfl⟩ := S_next_no hτ h117 out5
  refine z_ldc C (v := (-1000002)) wd266 dL_nexts_120 ?_
  refine z_icmp_ne C 211 dL_nexts_122 (by decide) (fun c_122 => ?_) (fun c_122 => ?_)
  · exact absurd rfl c_122
  refine z_aload_n C dL_nexts_125 rfl ?_
  refine z_iconst C (v := (-1)) dL_nexts_126 (by decide) ?_
  refine z_csw C (As := [_, _]) (c_L_level) wd185 wd13 wd186 hd_level wd184 (rok (by decide) (by decide)) ⟨by show _ ≤ 400; omega, by show _ ≤ 6 * (400); omega⟩ rfl (Nat.le_of_ble_eq_true rfl) dL_nexts_127 ?_
  intro r127 τ h127
  obtain ⟨hτ, rfl⟩ := S_pup_no hτ h127 outm1
  refine z_ldc C (v := (-1000002)) wd266 dL_nexts_130 ?_
  refine z_icmp_ne C 211 dL_nexts_132 (by decide) (fun c_132 => ?_) (fun c_132 => ?_)
  · exact absurd rfl c_132
  refine z_aload_n C dL_nexts_135 rfl ?_
  refine z_iconst C (v := 5) dL_nexts_136 (by decide) ?_
  refine z_csw C (As := [_, _]) (c_L_known) wd268 wd13 wd269 hd_known wd267 (rok (by decide) (by decide)) ⟨by show _ ≤ 400; omega, by show _ ≤ 6 * (400); omega⟩ rfl (Nat.le_of_ble_eq_true rfl) dL_nexts_137 ?_
  intro r137 τ h137
  obtain ⟨hτ, rfl⟩ := S_pup_no hτ h137 out5
  refine z_ldc C (v := (-1000002)) wd266 dL_nexts_140 ?_
  refine z_icmp_ne C 211 dL_nexts_142 (by decide) (fun c_142 => ?_) (fun c_142 => ?_)
  · exact absurd rfl c_142
  refine z_aload_n C dL_nexts_145 rfl ?_
  refine z_iload_n C dL_nexts_146 rfl ?_
  refine z_csw C (As := [_, _]) (c_L_level) wd185 wd13 wd186 hd_level wd184 (rok (by decide) (by decide)) ⟨by show _ ≤ 400; omega, by show _ ≤ 6 * (400); omega⟩ rfl (Nat.le_of_ble_eq_true rfl) dL_nexts_147 ?_
  intro r147 τ h147
  obtain ⟨hτ, rfl⟩ := S_pup 0 hτ h147 hw
  refine z_iconst C (v := 2) dL_nexts_150 (by decide) ?_
  refine z_icmp_lt C 211 dL_nexts_151 (by decide) (fun c_151 => ?_) (fun c_151 => ?_)
  · obtain ⟨v, hv1, hv2, ev⟩ := hI.2.2.2.2.2.2.2.2.2.1 w hw
    rw [ev] at c_151
    exact absurd c_151 (nI_nlt (a := v) (b := 2) hv1 (by omega))
  refine z_aload_n C dL_nexts_154 rfl ?_
  refine z_aload_n C dL_nexts_155 rfl ?_
  refine z_iconst C (v := 0) dL_nexts_156 (by decide) ?_
  refine a_22 C (j := 0) (by decide) (by decide) dL_nexts_157 ?_
  rw [hτ.k 22 0 0 (by decide), hI.2.1.1, enp]
  refine z_iconst C (v := 0) dL_nexts_158 (by decide) ?_
  refine z_csw C (As := [_, _, _]) (c_L_shifts (hτ.inv hI.1)) wd375 wd13 wd376 hd_shifts wd374 (rok (by decide) (by decide)) ⟨by show _ ≤ 400; omega, by show _ ≤ 6 * (400); omega⟩ rfl (Nat.le_of_ble_eq_true rfl) dL_nexts_159 ?_
  intro r159 τ h159
  obtain ⟨hτ, rfl⟩ := S_pq_no hτ h159 (Or.inl (by rw [enp]; exact no_nI (Nat.le_refl _) (by omega)))
  refine z_ldc C (v := (-1000001)) wd367 dL_nexts_162 ?_
  refine z_icmp_ne C 211 dL_nexts_164 (by decide) (fun c_164 => ?_) (fun c_164 => ?_)
  · exact absurd rfl c_164
  refine z_aload_n C dL_nexts_167 rfl ?_
  refine z_iconst C (v := 0) dL_nexts_168 (by decide) ?_
  refine z_aload_n C dL_nexts_169 rfl ?_
  refine z_iconst C (v := 1) dL_nexts_170 (by decide) ?_
  refine a_22 C (j := 1) (by decide) (by decide) dL_nexts_171 ?_
  rw [hτ.k 22 0 1 (by decide), hI.2.1.2.1, eni]
  refine z_csw C (As := [_, _, _]) (c_L_hardest (hτ.inv hI.1)) wd391 wd13 wd392 hd_hardest wd390 (rok (by decide) (by decide)) ⟨by show _ ≤ 400; omega, by show _ ≤ 6 * (400); omega⟩ rfl (Nat.le_of_ble_eq_true rfl) dL_nexts_172 ?_
  intro r172 τ h172
  obtain ⟨hτ, rfl⟩ := S_pq_no hτ h172 (Or.inr (by rw [eni]; exact no_nI (Nat.le_refl _) (by omega)))
  refine z_ldc C (v := (-1000001)) wd367 dL_nexts_175 ?_
  refine z_icmp_ne C 211 dL_nexts_177 (by decide) (fun c_177 => ?_) (fun c_177 => ?_)
  · exact absurd rfl c_177
  refine z_aload_n C dL_nexts_180 rfl ?_
  refine z_aload_n C dL_nexts_181 rfl ?_
  refine z_iconst C (v := 0) dL_nexts_182 (by decide) ?_
  refine a_22 C (j := 0) (by decide) (by decide) dL_nexts_183 ?_
  rw [hτ.k 22 0 0 (by decide), hI.2.1.1, enp]
  refine z_aload_n C dL_nexts_184 rfl ?_
  refine z_iconst C (v := 1) dL_nexts_185 (by decide) ?_
  refine a_22 C (j := 1) (by decide) (by decide) dL_nexts_186 ?_
  rw [hτ.k 22 0 1 (by decide), hI.2.1.2.1, eni]
  refine z_csw C (As := [_, _, _]) (c_L_shiftsByAll (hτ.inv hI.1)) wd413 wd13 wd414 hd_shiftsByAll wd412 (rok (by decide) (by decide)) ⟨by show _ ≤ 400; omega, by show _ ≤ 6 * (400); omega⟩ rfl (Nat.le_of_ble_eq_true rfl) dL_nexts_187 ?_
  intro r187 τ h187
  obtain ⟨hτ, rfl⟩ := S_byAll_no hτ h187 (Or.inl (by rw [enp]; exact no_nI (Nat.le_refl _) (by omega)))
  refine z_ldc C (v := (-1000001)) wd367 dL_nexts_190 ?_
  refine z_icmp_ne C 211 dL_nexts_192 (by decide) (fun c_192 => ?_) (fun c_192 => ?_)
  · exact absurd rfl c_192
  refine z_aload_n C dL_nexts_195 rfl ?_
  refine z_aload_n C dL_nexts_196 rfl ?_
  refine z_iconst C (v := 1) dL_nexts_197 (by decide) ?_
  refine a_22 C (j := 1) (by decide) (by decide) dL_nexts_198 ?_
  rw [hτ.k 22 0 1 (by decide), hI.2.1.2.1, eni]
  refine z_csw C (As := [_, _]) (c_L_owner (hτ.inv hI.1)) wd569 wd13 wd570 hd_owner wd568 (rok (by decide) (by decide)) ⟨by show _ ≤ 400; omega, by show _ ≤ 6 * (400); omega⟩ rfl (Nat.le_of_ble_eq_true rfl) dL_nexts_199 ?_
  intro r199 τ h199
  obtain ⟨hτ, rfl⟩ := S_owner_no hτ h199 (by rw [eni]; exact no_nI (Nat.le_refl _) (by omega))
  refine z_ldc C (v := (-1000001)) wd367 dL_nexts_202 ?_
  refine z_icmp_ne C 211 dL_nexts_204 (by decide) (fun c_204 => ?_) (fun c_204 => ?_)
  · exact absurd rfl c_204
  refine z_iconst C (v := 1) dL_nexts_207 (by decide) ?_
  refine z_goto C 212 dL_nexts_208 (by decide) ?_
  refine z_widen (mc := 400) (ms := 6 * 400) (by first | decide | omega) (by first | decide | omega) ?_
  refine z_zret C dL_nexts_212 (by first | exact Or.inl rfl | exact Or.inr rfl | assumption) ?_
  exact ⟨rfl, hτ⟩
