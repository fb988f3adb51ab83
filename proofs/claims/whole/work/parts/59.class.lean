/-! ===== the class's constructor ===== -/
theorem va_D_iff {A : Nat → Prop} {ws : va_W} : va_D A ws ↔ (ws.map (·.1)).Nodup ∧ ∀ x ∈ ws, A x.1 := by
  constructor
  · intro h
    refine ⟨List.pairwise_iff_getElem.mpr fun i j hi hj hij e => ?_, fun x hx => ?_⟩
    · rw [List.length_map] at hi hj
      rw [List.getElem_map, List.getElem_map] at e
      exact absurd (h.1 i j _ _ (List.getElem?_eq_getElem hi) (List.getElem?_eq_getElem hj) e) (by omega)
    · obtain ⟨k, hk⟩ := List.getElem?_of_mem hx
      exact h.2 k x hk
  · intro h
    refine ⟨fun i j p q hi hj e => ?_, fun k q hk => h.2 q (List.mem_of_getElem? hk)⟩
    have h1 : (ws.map (·.1))[i]? = some p.1 := by rw [List.getElem?_map, hi]; rfl
    have h2 : (ws.map (·.1))[j]? = some q.1 := by rw [List.getElem?_map, hj]; rfl
    exact (List.getElem?_inj (List.getElem?_eq_some_iff.mp h1).1 h.1).mp (h1.trans (by rw [e]; exact h2.symm))
theorem va_P_mem {D : va_G} {cl : List vw_C} {ws ws' : va_W} {H : Heap} (h : va_P D cl ws H) (hs : ∀ x ∈ ws', x ∈ ws) : va_P D cl ws' H := fun k q hk => by
  obtain ⟨j, hj⟩ := List.getElem?_of_mem (hs q (List.mem_of_getElem? hk))
  exact h j q hj
theorem va_D_perm {A : Nat → Prop} {ws ws' : va_W} (h : va_D A ws) (hp : ws.Perm ws') : va_D A ws' := by
  rw [va_D_iff] at h ⊢
  exact ⟨(hp.map _).nodup_iff.mp h.1, fun x hx => h.2 x (hp.mem_iff.mpr hx)⟩
theorem b_permP {p : Program} {l : Launch} {e : Env} {R : Room} {s : State} {m : MethodId} {args : Array Value} {below : List Frame} {meth : Method} {c : Code} {D : va_G} {A : Nat → Prop} {nL cells slots : Nat} {Q : State → Prop} {ws ws' : va_W} {L : List (Option Value)} {pc : Nat} {st : List Value} (h : ws.Perm ws') (k : ZB p l e R s m args below meth c D A nL cells slots Q ws' L pc st) : ZB p l e R s m args below meth c D A nL cells slots Q ws L pc st :=
  fun H locs ls hP hD hS hl => k H locs ls (va_P_mem hP (fun x hx => h.mem_iff.mpr hx)) (va_D_perm hD h) hS hl
theorem b_move {p : Program} {l : Launch} {e : Env} {R : Room} {s : State} {m : MethodId} {args : Array Value} {below : List Frame} {meth : Method} {c : Code} {D : va_G} {A : Nat → Prop} {nL cells slots : Nat} {Q : State → Prop} {x y : Nat × va_E} {rest : va_W} {L : List (Option Value)} {pc : Nat} {st : List Value} (k : ZB p l e R s m args below meth c D A nL cells slots Q (x :: y :: rest) L pc st) : ZB p l e R s m args below meth c D A nL cells slots Q ((x :: rest) ++ [y]) L pc st :=
  b_permP (List.Perm.cons x (List.perm_append_comm (l₁ := rest) (l₂ := [y]))) k
theorem qf_0 {a : Nat → Nat} : (fun _ => none) = qf a 0 := by
  funext j
  unfold qf
  rw [if_neg (Nat.not_lt_zero _)]
theorem fl_0 {U : Nat → Nat → va_W} {a b : Nat → Nat} {rest : va_W} : rest = rest ++ fl U a b 0 := (List.append_nil rest).symm
