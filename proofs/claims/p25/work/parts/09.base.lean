/-! ===== the world of this claim: each thing by its kind and number; its ints by a third number ===== -/
abbrev St : Type := Nat → Nat → Nat → Int32
def up (σ : St) (k i j : Nat) (x : Int32) : St := fun k' i' => if k' = k ∧ i' = i then upd (σ k i) j x else σ k' i'
theorem up_app (σ : St) (k i j : Nat) (x : Int32) (k' i' j' : Nat) : up σ k i j x k' i' j' = if k' = k ∧ i' = i ∧ j' = j then x else σ k' i' j' := by
  unfold up upd
  by_cases h : k' = k ∧ i' = i
  · obtain ⟨rfl, rfl⟩ := h
    by_cases hj : j' = j <;> simp [hj]
  · rw [if_neg h]
    by_cases h1 : k' = k
    · have h2 : ¬ i' = i := fun q => h ⟨h1, q⟩
      simp [h1, h2]
    · simp [h1]
theorem up_eq {σ : St} {k i j : Nat} {x : Int32} : up σ k i j x k i = upd (σ k i) j x := by
  unfold up
  rw [if_pos ⟨rfl, rfl⟩]
theorem up_ne {σ : St} {k i j : Nat} {x : Int32} {k' i' : Nat} (h : ¬ (k' = k ∧ i' = i)) : up σ k i j x k' i' = σ k' i' := by
  unfold up
  rw [if_neg h]
/-- how many things of a kind -/
def nk : Nat → Nat := fun k => match k with
  | 10 => 16
  | 11 => 8
  | 12 => 8
  | 13 => 8
  | 14 => 8
  | 15 => 5
  | 16 => 20
  | _ => 1
/-- what a thing is: its references stand, its ints are g -/
def cf (ad : Nat → Nat → Nat) (cy : Nat → ClassId) (k i : Nat) (g : Nat → Int32) : va_E := match k with
  | 0 => .inr (5, [.ref (ad 1 0), .ref (ad 2 0), .ref (ad 3 0), .ref (ad 4 0), .ref (ad 5 0), .ref (ad 6 0), .int (g 6), .int (g 7), .int (g 8), .int (g 9)])
  | 1 => .inl (cy 3, 8, .inr (.inr (.inr (.inr (fun j => some (ad 11 j))))))
  | 2 => .inl (cy 4, 8, .inr (.inr (.inr (.inr (fun j => some (ad 13 j))))))
  | 3 => .inl (cy 5, 5, .inr (.inr (.inr (.inr (fun j => some (ad 15 j))))))
  | 4 => .inl (cy 6, 20, .inr (.inr (.inr (.inr (fun j => some (ad 16 j))))))
  | 5 => .inl (cy 0, 4, .inl g)
  | 6 => .inr (0, [.ref (ad 7 0), .ref (ad 8 0), .ref (ad 9 0), .int (g 3), .int (g 4)])
  | 7 => .inl (cy 0, 16, .inl g)
  | 8 => .inl (cy 7, 16, .inr (.inr (.inr (.inr (fun j => some (ad 10 j))))))
  | 9 => .inl (cy 0, 16, .inl g)
  | 10 => .inl (cy 0, 14, .inl g)
  | 11 => .inr (3, [.ref (ad 12 i), .int (g 1)])
  | 12 => .inl (cy 0, 16, .inl g)
  | 13 => .inr (1, [.ref (ad 14 i), .int (g 1), .int (g 2)])
  | 14 => .inl (cy 0, 4, .inl g)
  | 15 => .inr (4, [.int (g 0), .int (g 1)])
  | 16 => .inr (2, [.int (g 0), .int (g 1), .int (g 2), .int (g 3)])
  | 17 => .inl (cy 0, 8, .inl g)
  | 18 => .inl (cy 0, 32, .inl g)
  | 19 => .inl (cy 0, 8, .inl g)
  | 20 => .inl (cy 0, 20, .inl g)
  | 21 => .inl (cy 0, 4, .inl g)
  | 22 => .inl (cy 0, 4, .inl g)
  | 23 => .inl (cy 0, 14, .inl g)
  | _ => .inl (cy 0, 14, .inl g)
def tysL (cy : Nat → ClassId) : List (ClassId × FieldType) := [(cy 0, .int), (cy 1, .int), (cy 2, .int), (cy 3, .object RX3), (cy 4, .object RX1), (cy 5, .object RX4), (cy 6, .object RX2), (cy 7, .array .int)]
def IXb : List (Nat × Nat) := (List.range 23).flatMap (fun k => (List.range (nk k)).map (fun i => (k, i)))
def IXe : Nat → List (Nat × Nat)
  | 0 => []
  | 1 => [(23, 0)]
  | _ => [(23, 0), (24, 0)]
/-- the things of the world: the class's, the law's; while fingers runs, its two arrays -/
def IX (ad : Nat → Nat → Nat) : List (Nat × Nat) := IXb ++ IXe (ad 99 0)
theorem IXn_nodup : ∀ n, (IXb ++ IXe n).Nodup
  | 0 => by decide +kernel
  | 1 => by decide +kernel
  | n + 2 => by
    show (IXb ++ [(23, 0), (24, 0)]).Nodup
    decide +kernel
theorem IX_nodup {ad : Nat → Nat → Nat} : (IX ad).Nodup := IXn_nodup _
theorem IXb_mem {k i : Nat} (hk : k < 23) (hi : i < nk k) : (k, i) ∈ IXb := List.mem_flatMap.mpr ⟨k, List.mem_range.mpr hk, List.mem_map.mpr ⟨i, List.mem_range.mpr hi, rfl⟩⟩
theorem IX_mem {ad : Nat → Nat → Nat} {k i : Nat} (hk : k < 23) (hi : i < nk k) : (k, i) ∈ IX ad := List.mem_append_left _ (IXb_mem hk hi)
theorem IXb_of {q : Nat × Nat} (h : q ∈ IXb) : q.1 < 23 ∧ q.2 < nk q.1 := by
  obtain ⟨k, hk, h2⟩ := List.mem_flatMap.mp h
  obtain ⟨i, hi, rfl⟩ := List.mem_map.mp h2
  exact ⟨List.mem_range.mp hk, List.mem_range.mp hi⟩
theorem IX_at {ad : Nat → Nat → Nat} {k i : Nat} (h : (k, i) ∈ IX ad) : ∃ j : Nat, (IX ad)[j]? = some (k, i) := List.getElem?_of_mem h
/-- the world: its cells in a row -/
def WLg (I : List (Nat × Nat)) (ad : Nat → Nat → Nat) (cy : Nat → ClassId) (σ : St) : va_W := I.map (fun q => (ad q.1 q.2, cf ad cy q.1 q.2 (σ q.1 q.2)))
def WL (ad : Nat → Nat → Nat) (cy : Nat → ClassId) (σ : St) : va_W := WLg (IX ad) ad cy σ
theorem WLg_at {I : List (Nat × Nat)} {ad : Nat → Nat → Nat} {cy : Nat → ClassId} {σ : St} {k i j : Nat} (h : I[j]? = some (k, i)) : (WLg I ad cy σ)[j]? = some (ad k i, cf ad cy k i (σ k i)) := by
  unfold WLg
  rw [List.getElem?_map, h]
  rfl
theorem WLg_set {I : List (Nat × Nat)} (hI : I.Nodup) {ad : Nat → Nat → Nat} {cy : Nat → ClassId} {σ : St} {k i j f : Nat} {x : Int32} (h : I[j]? = some (k, i)) : (WLg I ad cy σ).set j (ad k i, cf ad cy k i (upd (σ k i) f x)) = WLg I ad cy (up σ k i f x) := by
  apply List.ext_getElem?
  intro n
  have hj : j < I.length := (List.getElem?_eq_some_iff.mp h).1
  by_cases hn : n = j
  · subst hn
    rw [List.getElem?_set_self (by unfold WLg; rw [List.length_map]; exact hj), WLg_at h, up_eq]
  · rw [List.getElem?_set_ne (Ne.symm hn)]
    unfold WLg
    rw [List.getElem?_map, List.getElem?_map]
    cases hq : I[n]? with
    | none => rw [Option.map_none, Option.map_none]
    | some q =>
      have hne : ¬ (q.1 = k ∧ q.2 = i) := by
        rintro ⟨h1, h2⟩
        have e : q = (k, i) := Prod.ext h1 h2
        rw [e] at hq
        exact hn ((List.getElem?_inj (List.getElem?_eq_some_iff.mp hq).1 hI).mp (hq.trans h.symm))
      rw [Option.map_some, Option.map_some, up_ne hne]
theorem WLg_key {I : List (Nat × Nat)} {ad : Nat → Nat → Nat} {cy : Nat → ClassId} {σ : St} (n : Nat) (p : Nat × va_E) (hp : (WLg I ad cy σ)[n]? = some p) : ∃ q, I[n]? = some q ∧ p.1 = ad q.1 q.2 := by
  unfold WLg at hp
  rw [List.getElem?_map] at hp
  cases hq : I[n]? with
  | none => rw [hq] at hp; cases hp
  | some q => rw [hq] at hp; cases hp; exact ⟨q, rfl, rfl⟩
theorem WLg_D {I : List (Nat × Nat)} (hI : I.Nodup) {ad : Nat → Nat → Nat} {A : Nat → Prop} {cy : Nat → ClassId} {σ : St} (h1 : ∀ x ∈ I, ∀ y ∈ I, ad x.1 x.2 = ad y.1 y.2 → x = y) (h2 : ∀ x ∈ I, A (ad x.1 x.2)) : va_D A (WLg I ad cy σ) := by
  refine ⟨fun i j p q hi hj hpq => ?_, fun n p hp => ?_⟩
  · obtain ⟨x, hx, ex⟩ := WLg_key i p hi
    obtain ⟨y, hy, ey⟩ := WLg_key j q hj
    have e : x = y := h1 x (List.mem_of_getElem? hx) y (List.mem_of_getElem? hy) (ex.symm.trans (hpq.trans ey))
    subst e
    exact (List.getElem?_inj (List.getElem?_eq_some_iff.mp hx).1 hI).mp (hx.trans hy.symm)
  · obtain ⟨x, hx, ex⟩ := WLg_key n p hp
    rw [ex]
    exact h2 x (List.mem_of_getElem? hx)
theorem WL_at {ad : Nat → Nat → Nat} {cy : Nat → ClassId} {σ : St} {k i j : Nat} (h : (IX ad)[j]? = some (k, i)) : (WL ad cy σ)[j]? = some (ad k i, cf ad cy k i (σ k i)) := WLg_at h
theorem WL_set {ad : Nat → Nat → Nat} {cy : Nat → ClassId} {σ : St} {k i j f : Nat} {x : Int32} (h : (IX ad)[j]? = some (k, i)) : (WL ad cy σ).set j (ad k i, cf ad cy k i (upd (σ k i) f x)) = WL ad cy (up σ k i f x) := WLg_set IX_nodup h
def Apart (ad : Nat → Nat → Nat) (A : Nat → Prop) : Prop := (∀ x ∈ IX ad, ∀ y ∈ IX ad, ad x.1 x.2 = ad y.1 y.2 → x = y) ∧ ∀ x ∈ IX ad, A (ad x.1 x.2)
theorem Apart.D {ad : Nat → Nat → Nat} {A : Nat → Prop} (h : Apart ad A) (cy : Nat → ClassId) (σ : St) : va_D A (WL ad cy σ) := WLg_D IX_nodup h.1 h.2
/-- the texts of the class, by their entries -/
def strs : List (Nat × String) := [(63, "there are 8 pieces"), (211, "there is no such piece"), (222, "an argument is out of range"), (80, "the piece has 16 notes"), (92, "some pitch would not be from 0 to 80"), (214, "there is no such note"), (216, "there is no such instrument"), (120, "the piece has more than 4 notes"), (142, "the pupil knows the piece"), (148, "the pupil cannot learn the piece there"), (162, "there is too little of the wood"), (168, "two orders are at work"), (170, "there are 20 orders"), (218, "there is no such order"), (184, "the order is not ready"), (190, "the order was fetched"), (192, "there are 8 instruments"), (207, "today would be above 5000")]
def ISE : String := "java/lang/IllegalStateException"
def IOOBE : String := "java/lang/IndexOutOfBoundsException"
def IAE : String := "java/lang/IllegalArgumentException"
def exs : List String := [ISE, IOOBE, IAE]
def decs : List MethodName := [⟨"java/lang/RuntimeException", "<init>", "(Ljava/lang/String;)V"⟩, ⟨"java/lang/Exception", "<init>", "(Ljava/lang/String;)V"⟩, ⟨"java/lang/Throwable", "<init>", "(Ljava/lang/String;)V"⟩]
/-- what stays of a state through the whole run -/
def Fx (l : Launch) (D : va_G) (ad : Nat → Nat → Nat) (cy : Nat → ClassId) (A : Nat → Prop) (sa : Nat → Nat) (s : State) : Prop :=
  l.stackTraces = false ∧ va_K D vwCl (tysL cy) s ∧ Apart ad A ∧ (∀ q : Nat, s.heap.size ≤ q → A q) ∧
  vx_Zq Bundle.tN "UNASSIGNED_STACK" Bundle.steD A s s.heap ∧ vx_Zq Bundle.tN "SUPPRESSED_SENTINEL" Bundle.listD A s s.heap ∧
  (∀ q ∈ strs, vk_R RX5 q.1 q.2 (sa q.1) s) ∧ ((∀ E ∈ exs, va_Nw (.castable E E) s) ∧ ∀ x ∈ decs, va_Nw (.declares x) s) ∧ ∀ E ∈ exs, ∀ F ∈ exs, E ≠ F → va_Nc E F s
theorem Fx.call {l : Launch} {D : va_G} {ad : Nat → Nat → Nat} {cy : Nat → ClassId} {A : Nat → Prop} {sa : Nat → Nat} {s U : State} {H : Heap} {locs : List Loc} (h : Fx l D ad cy A sa s) (hS : va_S A s.heap H locs) (hU : U.heap = H) (hW : s.WarmedH U.vm) : Fx l D ad cy A sa U := by
  obtain ⟨h1, h2, h3, h4, h5, h6, h7, h8, h9⟩ := h
  refine ⟨h1, va_K.moved hW.alike h2, h3, fun q hq => h4 q (Nat.le_trans hS.1 (by rw [← hU]; exact hq)), ?_, ?_, fun q hq => (h7 q hq).warm hW, ⟨fun E hE => (h8.1 E hE).warmC hW, fun x hx => (h8.2 x hx).warmD hW⟩, fun E hE F hF n => (h9 E hE F hF n).moved hW.alike⟩
  · rw [hU]
    exact (h5.kept (fun a h1 h2 => hS.2.1 a h1 h2)).moved hW.alike
  · rw [hU]
    exact (h6.kept (fun a h1 h2 => hS.2.1 a h1 h2)).moved hW.alike
theorem Fx.blind {l : Launch} {D : va_G} {ad : Nat → Nat → Nat} {cy : Nat → ClassId} {A : Nat → Prop} {sa : Nat → Nat} {U : State} {g : JFrame} {mk : MethodId} {a : Array Value} (h : Fx l D ad cy A sa U) : Fx l D ad cy A sa (U.calling g mk a) := by
  obtain ⟨h1, h2, h3, h4, h5, h6, h7, h8, h9⟩ := h
  have hv : U.vm.Alike (U.calling g mk a).vm := Vm.Alike.refl U.vm
  exact ⟨h1, va_K.moved (u := U) (U := U.calling g mk a) hv h2, h3, h4, vx_Zq.moved (u := U) (U := U.calling g mk a) hv h5, vx_Zq.moved (u := U) (U := U.calling g mk a) hv h6, fun q hq => vk_R.same (u := U) (U := U.calling g mk a) rfl (h7 q hq), ⟨fun E hE => va_tabs rfl (rfl : U.vm = (U.calling g mk a).vm) (h8.1 E hE), fun x hx => va_tabs rfl (rfl : U.vm = (U.calling g mk a).vm) (h8.2 x hx)⟩, fun E hE F hF n => (h9 E hE F hF n).moved hv⟩
