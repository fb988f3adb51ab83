/-! ===== the hand, with its array of arrays; arrays of objects ===== -/
section ZBM
variable {p : Program} {l : Launch} {e : Env} {R : Room} {s : State} {m : MethodId} {args : Array Value} {below : List Frame} {meth : Method} {c : Code} {D : va_G} {cy : Nat → ClassId} {A : Nat → Prop} {nL cells slots : Nat} {Q : State → Prop} {ws : va_W} {L : List (Option Value)} {pc : Nat} {st : List Value} {cc : ByteArray} {own : String} {ret : Option FieldType}
def qref (n : Nat) (cA : ClassId) (f : Nat → Option Nat) : va_E := .inl (cA, n, .inr (.inr (.inr (.inr f))))
theorem b_mna (C : Bx p s m args meth c cc own nL ret D cy A) {idx : Nat} (hw : Cond.classLink own idx "[[I" ∈ BIG) (hc : cells + 17 ≤ R.cells ∧ slots + 240 ≤ R.slots) (hdg : decode cc pc = .ok (.multianewarray idx 2, 4)) (kk : ∀ (q : Nat) (r : Nat → Nat), ZB p l e R s m args below meth c D A nL (cells + 17) (slots + 240) Q ((ws ++ [(q, qref 16 (cy 7) (fun i => if i < 16 then some (r i) else none))]) ++ (List.range 16).map (fun i => (r i, .inl (cy 0, 14, .inl (fun _ => 0))))) L (pc + 4) (.ref q :: st)) : ZB p l e R s m args below meth c D A nL cells slots Q ws L pc (.int 14 :: .int 16 :: st) := by
  intro H locs ls hP hD hS hl
  obtain ⟨hx, hb, hml, hown, hts, hr, hlk, hF, hA⟩ := C
  have e1 : "[" ++ (FieldType.array .int).toString = "[[I" := by decide
  have hcy : s.vm.findClass (FieldType.array .int).toString = some (cy 0) := (hF.1.2 0 _ rfl).2
  refine va_mna (X := ws) (L := []) (f := fun _ => .inl (cy 0, 14, .inl (fun _ => 0))) (z := (14, .inl (fun _ => 0))) (ty := .int) (N' := 16) (K' := 14) hx hb hown (by rw [e1]; exact hts _ hw) hF.2.2.2 (hts _ wd53) hcy hF.1 (by rw [show ws ++ va_pl [] _ = ws from List.append_nil ws]; exact hP) (by rw [show ws ++ va_pl [] _ = ws from List.append_nil ws]; exact hD) hS hA (by decide) (by decide) (by decide) (by decide) (by decide) (by decide) (by decide) (by decide) (by decide) (by omega) (by omega) (fun c => rfl) hdg (fun q r cA H1 hinj _ hK1 hP1 hD1 hS1 => ?_)
  obtain rfl : cy 7 = cA := Option.some.inj ((hF.1.2 7 _ rfl).2.symm.trans (hK1.2 8 _ rfl).2)
  have e2 : va_pl ([] ++ (List.range 16).map r) (vr_up (fun _ => .inl (cy 0, 14, .inl (fun _ => 0))) ((List.range 16).map r) (.inl (cy 0, 14, .inl (fun _ => 0)))) = (List.range 16).map (fun i => ((r i, .inl (cy 0, 14, .inl (fun _ => 0))) : Nat × va_E)) := by
    unfold va_pl
    rw [List.nil_append, List.map_map]
    refine List.map_congr_left fun i hi => ?_
    show (r i, vr_up _ _ _ (r i)) = _
    unfold vr_up
    split <;> rfl
  rw [e2] at hP1 hD1
  exact kk q r H1 locs ls hP1 hD1 hS1 hl
end ZBM
set_option maxRecDepth 100000 in
set_option maxHeartbeats 4000000 in
theorem k_X0 {l : Launch} {D : va_G} {cy : Nat → ClassId} (b sz : Nat) : MC l D cy yX0_init cX0_init 1 1 19 272 [(b, .inr (0, [.null, .null, .null, .int 0, .int 0]))] sz b (fun u => ∃ q0 : Nat, ∃ q1 : Nat, ∃ q2 : Nat, ∃ r : Nat → Nat, u = (b, .inr (0, [.ref q0, .ref q1, .ref q2, .int 0, .int 0])) :: (q0, .inl (cy 0, 16, .inl (fun _ => 0))) :: (q1, qref 16 (cy 7) (fun i => if i < 16 then some (r i) else none)) :: (List.map (fun i => (r i, .inl (cy 0, 14, .inl (fun _ => 0)))) (List.range 16) ++ [(q2, .inl (cy 0, 16, .inl (fun _ => 0)))])) := by
  refine MC.mk "FretSchool$Hand" (by decide) rfl (Nat.le_of_ble_eq_true rfl) rfl ?_
  intro p e s m args below meth c A hAe C hni
  change ZB _ _ _ _ _ _ _ _ _ _ _ _ _ _ _ _ _ [some (.ref b)] 0 []
  refine b_aload_n C dX0_init_0 rfl ?_
  refine b_obj C ⟨Nat.le_of_ble_eq_true rfl, Nat.le_of_ble_eq_true rfl⟩ wd118 dX0_init_1 ?_
  refine b_aload_n C dX0_init_4 rfl ?_
  refine b_bipush C (v := 16) dX0_init_5 (by decide) ?_
  refine b_newi C (N' := 16) (by decide) (by decide) (by decide) ⟨Nat.le_of_ble_eq_true rfl, Nat.le_of_ble_eq_true rfl⟩ dX0_init_7 (fun q0 => ?_)
  simp only [List.cons_append, List.nil_append]
  refine b_putF C hni 0 0 rfl rfl (by decide) inB0 tyX0_ok nmX0 wd121 rfl rfl rfl rfl rfl (Nat.le_of_ble_eq_true rfl) dX0_init_9 ?_
  dsimp only [List.set]
  refine b_aload_n C dX0_init_12 rfl ?_
  refine b_bipush C (v := 16) dX0_init_13 (by decide) ?_
  refine b_bipush C (v := 14) dX0_init_15 (by decide) ?_
  refine b_mna C wd119 ⟨Nat.le_of_ble_eq_true rfl, Nat.le_of_ble_eq_true rfl⟩ dX0_init_17 (fun q1 r => ?_)
  simp only [List.cons_append, List.nil_append]
  refine b_putF C hni 0 1 rfl rfl (by decide) inB0 tyX0_ok nmX0 wd122 rfl rfl rfl rfl rfl (Nat.le_of_ble_eq_true rfl) dX0_init_21 ?_
  dsimp only [List.set]
  refine b_aload_n C dX0_init_24 rfl ?_
  refine b_bipush C (v := 16) dX0_init_25 (by decide) ?_
  refine b_newi C (N' := 16) (by decide) (by decide) (by decide) ⟨Nat.le_of_ble_eq_true rfl, Nat.le_of_ble_eq_true rfl⟩ dX0_init_27 (fun q2 => ?_)
  simp only [List.cons_append, List.nil_append]
  refine b_putF C hni 0 2 rfl rfl (by decide) inB0 tyX0_ok nmX0 wd123 rfl rfl rfl rfl rfl (Nat.le_of_ble_eq_true rfl) dX0_init_29 ?_
  dsimp only [List.set]
  refine b_aload_n C dX0_init_32 rfl ?_
  refine b_iconst C (v := 0) dX0_init_33 (by decide) ?_
  refine b_put C 0 3 rfl rfl (by decide) inB0 tyX0_ok nmX0 wd125 rfl rfl rfl rfl (Nat.le_of_ble_eq_true rfl) dX0_init_34 ?_
  dsimp only [List.set]
  refine b_aload_n C dX0_init_37 rfl ?_
  refine b_iconst C (v := 0) dX0_init_38 (by decide) ?_
  refine b_put C 0 4 rfl rfl (by decide) inB0 tyX0_ok nmX0 wd127 rfl rfl rfl rfl (Nat.le_of_ble_eq_true rfl) dX0_init_39 ?_
  dsimp only [List.set]
  exact b_ret C dX0_init_42 ⟨q0, q1, q2, r, rfl⟩
