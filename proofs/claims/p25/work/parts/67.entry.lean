/-! ===== what the tables say at the law's entry ===== -/
theorem ac_arr {args : Array Value} {s : State} {ty : FieldType} (hRA : ∀ c : ClassId, s.vm.findClass ("[" ++ ty.toString) = some c → va_RA s c ty) (h : (Cond.arrayClass ty).before args s = true) : ∃ cA, ArrOfT s cA ty ∧ va_RA s cA ty := by
  obtain ⟨c, k, comp, h1, h2, h3⟩ := Cond.arrayClass_spec h
  exact ⟨c, fun n z => ⟨(fun k h => by cases h), k, h2, comp, h3⟩, hRA c h1⟩
theorem ao_arr {args : Array Value} {s : State} {C : String} (h : (Cond.arrayOver (.object C)).before args s = true) : ∃ cA, ArrOfT s cA (.object C) ∧ va_RA s cA (.object C) := by
  obtain ⟨comp, c, k, h1, -, h2, h3, h4⟩ := Cond.arrayOver_spec h
  exact ⟨c, fun n z => ⟨(fun k h => by cases h), k, h2, comp, h3⟩, k, comp, h2, h3, h1, h4⟩
theorem aoa_arr {args : Array Value} {s : State} (h : (Cond.arrayOver (.array .int)).before args s = true) : ∃ cA, ArrOfT s cA (.array .int) ∧ va_RA s cA (.array .int) := by
  obtain ⟨comp, c, k, h1, h2, h3, h4⟩ := Cond.arrayOver_specA h
  exact ⟨c, fun n z => ⟨(fun k h => by cases h), k, h2, comp, h3⟩, h4⟩
theorem start_K {s : State} {args : Array Value} (hts : ∀ w ∈ lw_tbl, w.before args s = true) : ∃ (D : va_G) (cy : Nat → ClassId), va_K D vwCl (tysL cy) s := by
  have hB : ∀ w ∈ BIG, w.before args s = true := fun w h => hts w (bigT h)
  obtain ⟨e0, i0, k0⟩ := u_known (C := RX0) (T := TX0) (N := 5) (n := 5) hB inB0 (hB _ wd114)
  obtain ⟨e1, i1, k1⟩ := u_known (C := RX1) (T := TX1) (N := 3) (n := 3) hB inB1 (hB _ wd56)
  obtain ⟨e2, i2, k2⟩ := u_known (C := RX2) (T := TX2) (N := 4) (n := 4) hB inB2 (hB _ wd91)
  obtain ⟨e3, i3, k3⟩ := u_known (C := RX3) (T := TX3) (N := 2) (n := 2) hB inB3 (hB _ wd37)
  obtain ⟨e4, i4, k4⟩ := u_known (C := RX4) (T := TX4) (N := 2) (n := 2) hB inB4 (hB _ wd75)
  obtain ⟨e5, i5, k5⟩ := u_known (C := RX5) (T := TX5) (N := 10) (n := 10) hB inB5 (hB _ wd28)
  obtain ⟨c0, t0⟩ := ac_arr (s := s) (ty := .int) (fun c h => h) (hB _ wd53)
  obtain ⟨c3, t3⟩ := ao_arr (hts _ wt36)
  obtain ⟨c4, t4⟩ := ao_arr (hts _ wt55)
  obtain ⟨c5, t5⟩ := ao_arr (hts _ wt74)
  obtain ⟨c6, t6⟩ := ao_arr (hts _ wt90)
  obtain ⟨c7, t7⟩ := aoa_arr (hts _ wt120)
  refine ⟨(fun k => match k with | 0 => e0 | 1 => e1 | 2 => e2 | 3 => e3 | 4 => e4 | _ => e5, fun k => match k with | 0 => i0 | 1 => i1 | 2 => i2 | 3 => i3 | 4 => i4 | _ => i5), fun k => match k with | 0 => c0 | 1 => c0 | 2 => c0 | 3 => c3 | 4 => c4 | 5 => c5 | 6 => c6 | _ => c7, fun c q hq => ?_, fun k q hk => ?_⟩
  · match c, hq with
    | 0, hq => cases hq; exact k0
    | 1, hq => cases hq; exact k1
    | 2, hq => cases hq; exact k2
    | 3, hq => cases hq; exact k3
    | 4, hq => cases hq; exact k4
    | 5, hq => cases hq; exact k5
    | c + 6, hq => simp [vwCl] at hq
  · match k, hk with
    | 0, hk => cases hk; exact t0
    | 1, hk => cases hk; exact t0
    | 2, hk => cases hk; exact t0
    | 3, hk => cases hk; exact t3
    | 4, hk => cases hk; exact t4
    | 5, hk => cases hk; exact t5
    | 6, hk => cases hk; exact t6
    | 7, hk => cases hk; exact t7
    | k + 8, hk => simp [tysL] at hk
theorem start_Fb {s : State} {args : Array Value} {D : va_G} {cy : Nat → ClassId} (hts : ∀ w ∈ lw_tbl, w.before args s = true) (hK : va_K D vwCl (tysL cy) s) : Fb D cy s := by
  refine ⟨hK, ?_, ?_, va_AOA.of (hts _ wt120)⟩
  · unfold nests
    exact List.forall_mem_cons.mpr ⟨va_Nw.of rfl (hts _ wt38), List.forall_mem_cons.mpr ⟨va_Nw.of rfl (hts _ wt57), List.forall_mem_cons.mpr ⟨va_Nw.of rfl (hts _ wt76), List.forall_mem_cons.mpr ⟨va_Nw.of rfl (hts _ wt92), List.forall_mem_cons.mpr ⟨va_Nw.of rfl (hts _ wt115), fun _ h => absurd h List.not_mem_nil⟩⟩⟩⟩⟩
  · unfold overs
    exact List.forall_mem_cons.mpr ⟨va_AO.of (hts _ wt36), List.forall_mem_cons.mpr ⟨va_AO.of (hts _ wt55), List.forall_mem_cons.mpr ⟨va_AO.of (hts _ wt74), List.forall_mem_cons.mpr ⟨va_AO.of (hts _ wt90), fun _ h => absurd h List.not_mem_nil⟩⟩⟩⟩
theorem wt202 : Cond.declares (⟨"java/lang/RuntimeException", "<init>", "(Ljava/lang/String;)V"⟩ : MethodName) ∈ lw_tbl := List.mem_of_getElem? (i := 202) (by rfl)
theorem wt204 : Cond.declares (⟨"java/lang/Exception", "<init>", "(Ljava/lang/String;)V"⟩ : MethodName) ∈ lw_tbl := List.mem_of_getElem? (i := 204) (by rfl)
theorem wt206 : Cond.declares (⟨"java/lang/Throwable", "<init>", "(Ljava/lang/String;)V"⟩ : MethodName) ∈ lw_tbl := List.mem_of_getElem? (i := 206) (by rfl)
def saOf (s : State) (k : Nat) : Nat := match (Term.string RX5 k).eval #[] s none [] s with
  | some (.ref a) => a
  | _ => 0
theorem vk_at {args : Array Value} {s : State} {tx : String} {k : Nat} (h : (Cond.stringRef RX5 k tx).before args s = true) : vk_R RX5 k tx (saOf s k) s := by
  have hcur : ∃ cur, s.vm.findClass RX5 = some cur := by
    have h1 := h
    simp only [Cond.before, Cond.holds, Cond.value] at h1
    cases hc : s.vm.findClass RX5 with
    | none => simp [hc] at h1
    | some cur => exact ⟨cur, rfl⟩
  obtain ⟨cur, hcur⟩ := hcur
  obtain ⟨k1, cf, j, a, -, -, -, -, -, hev⟩ := Cond.stringRef_spec hcur h
  have e : (Term.string RX5 k).eval #[] s none [] s = some (.ref a) := (Term.string_eval_of_vm (args := args) (U := s) (V := s) rfl).trans hev
  have ea : saOf s k = a := by
    unfold saOf
    rw [e]
  rw [ea]
  exact vk_R.of h hev
theorem nc_ISE_IOOBE : Cond.not (.castable "java/lang/IllegalStateException" "java/lang/IndexOutOfBoundsException") ∈ flatC (Jvm.Cond.and given_1 narrow_1) := by decide +kernel
theorem nc_ISE_IAE : Cond.not (.castable "java/lang/IllegalStateException" "java/lang/IllegalArgumentException") ∈ flatC (Jvm.Cond.and given_1 narrow_1) := by decide +kernel
theorem nc_IOOBE_ISE : Cond.not (.castable "java/lang/IndexOutOfBoundsException" "java/lang/IllegalStateException") ∈ flatC (Jvm.Cond.and given_1 narrow_1) := by decide +kernel
theorem nc_IOOBE_IAE : Cond.not (.castable "java/lang/IndexOutOfBoundsException" "java/lang/IllegalArgumentException") ∈ flatC (Jvm.Cond.and given_1 narrow_1) := by decide +kernel
theorem nc_IAE_ISE : Cond.not (.castable "java/lang/IllegalArgumentException" "java/lang/IllegalStateException") ∈ flatC (Jvm.Cond.and given_1 narrow_1) := by decide +kernel
theorem nc_IAE_IOOBE : Cond.not (.castable "java/lang/IllegalArgumentException" "java/lang/IndexOutOfBoundsException") ∈ flatC (Jvm.Cond.and given_1 narrow_1) := by decide +kernel
theorem st_US : Cond.isRef (.static "java/lang/Throwable" "UNASSIGNED_STACK" "[Ljava/lang/StackTraceElement;") ∈ flatC (Jvm.Cond.and given_1 narrow_1) := by decide +kernel
theorem st_SS : Cond.isRef (.static "java/lang/Throwable" "SUPPRESSED_SENTINEL" "Ljava/util/List;") ∈ flatC (Jvm.Cond.and given_1 narrow_1) := by decide +kernel
theorem start_Fx {l : Launch} (hflags : l.flags = flags0) {s : State} {b : Nat} {D : va_G} {cy : Nat → ClassId} {ad : Nat → Nat → Nat} (hts : ∀ w ∈ lw_tbl, w.before #[Value.ref b] s = true) (hgv : (Jvm.Cond.and given_1 narrow_1).before #[Value.ref b] s = true) (hK : va_K D vwCl (tysL cy) s) (hAp : Apart ad (fun q => s.heap.size ≤ q)) : Fx l D ad cy (fun q => s.heap.size ≤ q) (saOf s) s := by
  have hs := flat_of_before _ hgv
  have hn : ∀ a : Nat, a < s.heap.size → ¬ s.heap.size ≤ a := fun a h => Nat.not_le.mpr h
  refine ⟨?_, hK, hAp, fun q h => h, vx_Zqof (hts _ wt225) (hts _ (bigT wd20)) (hs _ st_US) hn, vx_Zqof (hts _ wt227) (hts _ (bigT wd20)) (hs _ st_SS) hn, ?_, ⟨?_, ?_⟩, ?_⟩
  · unfold Launch.stackTraces
    rw [hflags]
    decide +kernel
  · unfold strs
    exact List.forall_mem_cons.mpr ⟨vk_at (hts _ wt461), List.forall_mem_cons.mpr ⟨vk_at (hts _ wt359), List.forall_mem_cons.mpr ⟨vk_at (hts _ wt239), List.forall_mem_cons.mpr ⟨vk_at (hts _ wt473), List.forall_mem_cons.mpr ⟨vk_at (hts _ wt490), List.forall_mem_cons.mpr ⟨vk_at (hts _ wt366), List.forall_mem_cons.mpr ⟨vk_at (hts _ wt389), List.forall_mem_cons.mpr ⟨vk_at (hts _ wt429), List.forall_mem_cons.mpr ⟨vk_at (hts _ wt589), List.forall_mem_cons.mpr ⟨vk_at (hts _ wt590), List.forall_mem_cons.mpr ⟨vk_at (hts _ wt524), List.forall_mem_cons.mpr ⟨vk_at (hts _ wt533), List.forall_mem_cons.mpr ⟨vk_at (hts _ wt534), List.forall_mem_cons.mpr ⟨vk_at (hts _ wt516), List.forall_mem_cons.mpr ⟨vk_at (hts _ wt557), List.forall_mem_cons.mpr ⟨vk_at (hts _ wt558), List.forall_mem_cons.mpr ⟨vk_at (hts _ wt559), List.forall_mem_cons.mpr ⟨vk_at (hts _ wt546), fun _ h => absurd h List.not_mem_nil⟩⟩⟩⟩⟩⟩⟩⟩⟩⟩⟩⟩⟩⟩⟩⟩⟩⟩
  · unfold exs
    exact List.forall_mem_cons.mpr ⟨va_Nw.of rfl (hts _ wt422), List.forall_mem_cons.mpr ⟨va_Nw.of rfl (hts _ wt352), List.forall_mem_cons.mpr ⟨va_Nw.of rfl (hts _ wt200), fun _ h => absurd h List.not_mem_nil⟩⟩⟩
  · unfold decs
    exact List.forall_mem_cons.mpr ⟨va_Nw.of rfl (hts _ wt202), List.forall_mem_cons.mpr ⟨va_Nw.of rfl (hts _ wt204), List.forall_mem_cons.mpr ⟨va_Nw.of rfl (hts _ wt206), fun _ h => absurd h List.not_mem_nil⟩⟩⟩
  · unfold exs
    exact List.forall_mem_cons.mpr ⟨List.forall_mem_cons.mpr ⟨fun h => absurd rfl h, List.forall_mem_cons.mpr ⟨fun _ => va_Nc.of (hs _ nc_ISE_IOOBE), List.forall_mem_cons.mpr ⟨fun _ => va_Nc.of (hs _ nc_ISE_IAE), fun _ h => absurd h List.not_mem_nil⟩⟩⟩, List.forall_mem_cons.mpr ⟨List.forall_mem_cons.mpr ⟨fun _ => va_Nc.of (hs _ nc_IOOBE_ISE), List.forall_mem_cons.mpr ⟨fun h => absurd rfl h, List.forall_mem_cons.mpr ⟨fun _ => va_Nc.of (hs _ nc_IOOBE_IAE), fun _ h => absurd h List.not_mem_nil⟩⟩⟩, List.forall_mem_cons.mpr ⟨List.forall_mem_cons.mpr ⟨fun _ => va_Nc.of (hs _ nc_IAE_ISE), List.forall_mem_cons.mpr ⟨fun _ => va_Nc.of (hs _ nc_IAE_IOOBE), List.forall_mem_cons.mpr ⟨fun h => absurd rfl h, fun _ h => absurd h List.not_mem_nil⟩⟩⟩, fun _ h => absurd h List.not_mem_nil⟩⟩⟩
theorem b_astore_n {p : Program} {l : Launch} {e : Env} {R : Room} {s : State} {m : MethodId} {args : Array Value} {below : List Frame} {meth : Method} {c : Code} {D : va_G} {cy : Nat → ClassId} {A : Nat → Prop} {nL cells slots : Nat} {Q : State → Prop} {ws : va_W} {L : List (Option Value)} {pc : Nat} {st : List Value} {cc : ByteArray} {own : String} {ret : Option FieldType} (C : Bx p s m args meth c cc own nL ret D cy A) {n : Fin 4} {x : Nat} (hdg : decode cc pc = .ok (.astore_n n, 1)) (hn : (n : Nat) < nL) (k : ZB p l e R s m args below meth c D A nL cells slots Q ws (L.set (n : Nat) (some (.ref x))) (pc + 1) st) : ZB p l e R s m args below meth c D A nL cells slots Q ws L pc (.ref x :: st) :=
  fun H locs _ hP hD hS hl => lv_astore_n C.1 C.2.1 hdg rfl hl.has hn rfl (fun ls' h' => k H locs ls' hP hD hS (hl.set rfl h'))
theorem b_istore {p : Program} {l : Launch} {e : Env} {R : Room} {s : State} {m : MethodId} {args : Array Value} {below : List Frame} {meth : Method} {c : Code} {D : va_G} {cy : Nat → ClassId} {A : Nat → Prop} {nL cells slots : Nat} {Q : State → Prop} {ws : va_W} {L : List (Option Value)} {pc : Nat} {st : List Value} {cc : ByteArray} {own : String} {ret : Option FieldType} (C : Bx p s m args meth c cc own nL ret D cy A) {n : Nat} {x : Int32} (hdg : decode cc pc = .ok (.istore n, 2)) (hn : n < nL) (k : ZB p l e R s m args below meth c D A nL cells slots Q ws (L.set n (some (.int x))) (pc + 2) st) : ZB p l e R s m args below meth c D A nL cells slots Q ws L pc (.int x :: st) :=
  fun H locs _ hP hD hS hl => lv_istore C.1 C.2.1 hdg hl.has hn rfl (fun ls' h' => k H locs ls' hP hD hS (hl.set rfl h'))
