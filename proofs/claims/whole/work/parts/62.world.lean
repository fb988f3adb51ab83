/-! ===== from what the constructors made to the world ===== -/
theorem at_qref {D : va_G} {cl : List vw_C} {q n : Nat} {cA : ClassId} {f f' : Nat → Option Nat} {H : Heap} (h : ∀ j, j < n → f j = f' j) (ha : va_at D cl (q, qref n cA f) H) : va_at D cl (q, qref n cA f') H := by
  have e : vp_cell cA (n, .inr (.inr (.inr (.inr f)))) = vp_cell cA (n, .inr (.inr (.inr (.inr f')))) := by
    rw [vp_cell_q, vp_cell_q]
    unfold arrV
    congr 2
    funext j
    show va_rf (f j.val) = va_rf (f' j.val)
    rw [h j.val j.isLt]
  show H[q]? = some (vp_cell cA (n, .inr (.inr (.inr (.inr f')))))
  rw [← e]
  exact ha
/-- one list's things are another's, place by place -/
def Same (D : va_G) : va_W → va_W → Prop
  | [], [] => True
  | x :: xs, y :: ys => (∀ H : Heap, va_at D vwCl x H → va_at D vwCl y H) ∧ Same D xs ys
  | _, _ => False
theorem Same.P {D : va_G} {H : Heap} : ∀ {xs ys : va_W}, Same D xs ys → va_P D vwCl xs H → va_P D vwCl ys H
  | [], [], _, _ => fun k q hk => by cases k <;> cases hk
  | x :: xs, y :: ys, h, hP => fun k q hk => by
    cases k with
    | zero =>
      cases hk
      exact h.1 H (hP 0 x rfl)
    | succ k => exact Same.P h.2 (fun k' q' hk' => hP (k' + 1) q' hk') k q hk
  | [], _ :: _, h, _ => h.elim
  | _ :: _, [], h, _ => h.elim
/-- the places of IX, out of a list of the same addresses -/
theorem Apart_of {ad : Nat → Nat → Nat} {A : Nat → Prop} {ws : va_W} (hD : va_D A ws) (hm : ws.map (·.1) = IX.map (fun q => ad q.1 q.2)) : Apart ad A := by
  have at' : ∀ k i, k < 33 → i < nk k → ∃ (n : Nat) (x : Nat × va_E), IX[n]? = some (k, i) ∧ ws[n]? = some x ∧ x.1 = ad k i := by
    intro k i hk hi
    obtain ⟨n, hn⟩ := IX_at hk hi
    have h1 : (IX.map (fun q => ad q.1 q.2))[n]? = some (ad k i) := by rw [List.getElem?_map, hn]; rfl
    rw [← hm, List.getElem?_map] at h1
    cases hq : ws[n]? with
    | none => rw [hq] at h1; cases h1
    | some x => rw [hq] at h1; exact ⟨n, x, hn, hq, Option.some.inj h1⟩
  refine ⟨fun k i k' i' hk hi hk' hi' e => ?_, fun k i hk hi => ?_⟩
  · obtain ⟨n, x, h1, h2, h3⟩ := at' k i hk hi
    obtain ⟨n', x', h1', h2', h3'⟩ := at' k' i' hk' hi'
    have en : n = n' := hD.1 n n' x x' h2 h2' (h3.trans (e.trans h3'.symm))
    subst en
    rw [h1] at h1'
    cases h1'
    exact ⟨rfl, rfl⟩
  · obtain ⟨n, x, h1, h2, h3⟩ := at' k i hk hi
    rw [← h3]
    exact hD.2 n x h2
