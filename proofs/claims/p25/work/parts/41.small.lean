/-! ===== the law's small methods ===== -/
def lowN (v : Int32) (k : Nat) : Nat := (v &&& 2147483647).toNatClampNeg % k
theorem lowN_lt {v : Int32} {k : Nat} (h : 0 < k) : lowN v k < k := Nat.mod_lt _ h
theorem low_val {v n : Int32} {k : Nat} (hn : n = nI k) (h0 : 0 < k) (hk : k < 2 ^ 31) : (v &&& 2147483647) - (v &&& 2147483647) / n * n = nI (lowN v k) := by
  obtain ⟨j, hj, e⟩ := pk_andE v 31 (m := 2147483647) (by decide)
  unfold lowN
  rw [e, nI_clamp (by omega), hn]
  exact pk_rem (by omega) h0 hk
def apN (a b : Nat) : Nat := if a < b then b - a else a - b
theorem apN_sh {a b : Nat} (h : 1 ≤ a) : apN a b = sh a b := by
  unfold apN sh
  rw [if_neg (show ¬ a = 0 by omega)]
  by_cases q : a < b
  · rw [if_pos q, if_pos (by omega)]
  · by_cases q2 : a ≤ b
    · rw [if_neg q, if_pos q2]; omega
    · rw [if_neg q, if_neg q2]
theorem div32 {f w : Nat} (hf : f < 32) (hw : w < 1000) : nI (f + 32 * w) / 32 = nI w := by
  rw [show (32 : Int32) = nI 32 from rfl, pk_div (by omega) (by omega) (by omega), show (f + 32 * w) / 32 = w by omega]
theorem rem32 {f w : Nat} (hf : f < 32) (hw : w < 1000) : nI (f + 32 * w) - nI (f + 32 * w) / 32 * 32 = nI f := by
  rw [show (32 : Int32) = nI 32 from rfl, pk_rem (by omega) (by omega) (by omega), show (f + 32 * w) % 32 = f by omega]
theorem shr_bit {x : Int32} {j : Nat} (hj : j < 32) : (x >>> (nI j &&& 31)) &&& 1 = 0 ↔ x &&& (1 <<< (nI j &&& 31)) = 0 := by
  have h0 := bit_zero (x := x >>> (nI j &&& 31)) (h := 0) (by decide)
  rw [show ((1 : Int32) <<< (nI 0 &&& 31)) = 1 by decide] at h0
  rw [bit_zero hj, h0]
  have e : ((nI j &&& 31).toBitVec.smod 32).toNat = j := by
    have : ∀ j, j < 32 → ((nI j &&& 31).toBitVec.smod 32).toNat = j := by decide +kernel
    exact this j hj
  rw [Int32.toBitVec_shiftRight]
  show (x.toBitVec.sshiftRight ((nI j &&& 31).toBitVec.smod 32).toNat).getLsbD 0 = false ↔ _
  rw [e, BitVec.getLsbD_sshiftRight]
  simp [hj]
  try omega
set_option maxRecDepth 100000 in
set_option maxHeartbeats 4000000 in
theorem c_L_low {l : Launch} {D : va_G} {ad : Nat → Nat → Nat} {cy : Nat → ClassId} {A : Nat → Prop} {sa : Nat → Nat} {σ : St} {v n : Int32} {k : Nat} (hn : n = nI k) (h0 : 0 < k) (hk : k < 2 ^ 31) : MI l D ad cy A sa yL_low cL_low 2 (some .int) 0 σ [.int v, .int n] (fun r σ' => r = nI (lowN v k) ∧ σ = σ') := by
  refine MI.mk "FretSchoolLaw" (by decide) rfl (Nat.le_of_ble_eq_true rfl) rfl ?_
  intro p e s m args below meth c C
  change Z _ _ _ _ _ _ _ _ _ _ _ _ _ _ _ _ _ _ _ [some (.int v), some (.int n)] 0 []
  refine z_iload_n C dL_low_0 rfl ?_
  refine z_ldc C (v := 2147483647) wd450 dL_low_1 ?_
  refine z_iand C dL_low_3 ?_
  refine z_iload_n C dL_low_4 rfl ?_
  refine z_irem C (by rw [hn]; exact nI_ne0 h0 hk) dL_low_5 ?_
  refine z_iret C dL_low_6 ?_
  exact ⟨low_val hn h0 hk, rfl⟩
set_option maxRecDepth 100000 in
set_option maxHeartbeats 4000000 in
theorem c_L_apart {l : Launch} {D : va_G} {ad : Nat → Nat → Nat} {cy : Nat → ClassId} {A : Nat → Prop} {sa : Nat → Nat} {σ : St} {x y : Int32} {a b : Nat} (ex : x = nI a) (ey : y = nI b) (ha : a < 2 ^ 31) (hb : b < 2 ^ 31) : MI l D ad cy A sa yL_apart cL_apart 2 (some .int) 0 σ [.int x, .int y] (fun r σ' => r = nI (apN a b) ∧ σ = σ') := by
  refine MI.mk "FretSchoolLaw" (by decide) rfl (Nat.le_of_ble_eq_true rfl) rfl ?_
  intro p e s m args below meth c C
  change Z _ _ _ _ _ _ _ _ _ _ _ _ _ _ _ _ _ _ _ [some (.int x), some (.int y)] 0 []
  refine z_iload_n C dL_apart_0 rfl ?_
  refine z_iload_n C dL_apart_1 rfl ?_
  refine z_icmp_ge C 11 dL_apart_2 (by decide) (fun c_2 => ?_) (fun c_2 => ?_)
  · have q : b ≤ a := by rw [ex, ey, nI_leI hb ha] at c_2; exact c_2
    refine z_iload_n C dL_apart_11 rfl ?_
    refine z_iload_n C dL_apart_12 rfl ?_
    refine z_isub C dL_apart_13 ?_
    refine z_iret C dL_apart_14 ?_
    refine ⟨?_, rfl⟩
    unfold apN
    first
      | rw [if_pos q, ex, ey, pk_sub (by omega)]
      | rw [if_neg (by omega), ex, ey, pk_sub q]
  · have q : a < b := by rw [ex, ey, nI_leI hb ha] at c_2; omega
    refine z_iload_n C dL_apart_5 rfl ?_
    refine z_iload_n C dL_apart_6 rfl ?_
    refine z_isub C dL_apart_7 ?_
    refine z_goto C 14 dL_apart_8 (by decide) ?_
    refine z_iret C dL_apart_14 ?_
    refine ⟨?_, rfl⟩
    unfold apN
    first
      | rw [if_pos q, ex, ey, pk_sub (by omega)]
      | rw [if_neg (by omega), ex, ey, pk_sub q]
/-- the law's at: whatever it answers -/
def PcA (l : Launch) (D : va_G) (ad : Nat → Nat → Nat) (cy : Nat → ClassId) (A : Nat → Prop) (sa : Nat → Nat) (b L : Nat) (xs : Nat → Int32) (σ : St) (av : List Value) : Array Value → State → Prop := va_Pc av (fun U => Fx l D ad cy A sa U ∧ va_P D vwCl (WL ad cy σ) U.heap ∧ va_X b L xs U U.heap ∧ b < U.heap.size)
theorem PcA.blind {l : Launch} {D : va_G} {ad : Nat → Nat → Nat} {cy : Nat → ClassId} {A : Nat → Prop} {sa : Nat → Nat} {b L : Nat} {xs : Nat → Int32} {σ : St} {av : List Value} : FrameBlind (PcA l D ad cy A sa b L xs σ av) := fun g mk a U q => ⟨q.1, q.2.1.blind, q.2.2.1, va_X.moved (u := _) (U := _) (Vm.Alike.refl _) q.2.2.2.1, q.2.2.2.2⟩
def MA (l : Launch) (D : va_G) (ad : Nat → Nat → Nat) (cy : Nat → ClassId) (A : Nat → Prop) (sa : Nat → Nat) (b L : Nat) (xs : Nat → Int32) (σ : St) (k : Int32) : Prop :=
  Met l yL_at (Cond.code yL_at cL_at 2 (some .int) :: BIG) (rmD 0 0) (PcA l D ad cy A sa b L xs σ [.ref b, .int k]) (va_Qi (fun _ σ' => σ = σ') (Bw D ad cy) A) 0 0 A
set_option maxRecDepth 100000 in
set_option maxHeartbeats 4000000 in
theorem c_L_at {l : Launch} {D : va_G} {ad : Nat → Nat → Nat} {cy : Nat → ClassId} {A : Nat → Prop} {sa : Nat → Nat} {b L : Nat} {xs : Nat → Int32} {σ : St} (hbA : ¬ A b) (hL : L ≤ 260) {t : Nat} (ht : t < 100000) : MA l D ad cy A sa b L xs σ (nI t) := by
  refine Met.ofW (cc := cL_at) (maxL := 2) (ret := some .int) (by decide) rfl ?_
  intro p e s m args below meth c s₁ B hml hv
  obtain ⟨rfl, hF, hP, hX, hbl⟩ := hv
  have C := Cx.of (own := "FretSchoolLaw") B hml rfl hF
  have hl := lv_entry [.ref b, .int (nI t)] (n := 2) (Nat.le_of_ble_eq_true rfl)
  rw [lg_entry_eq]
  have Z0 : Z p l e (rmD 0 0) s m #[.ref b, .int (nI t)] below meth c D ad cy A 2 0 0 (MQ below (va_Qi (fun _ σ' => σ = σ') (Bw D ad cy) A) #[.ref b, .int (nI t)] s 0 0 A) σ [some (.ref b), some (.int (nI t))] 0 [] := by
    refine z_iload_n C dL_at_0 rfl ?_
    refine z_aload_n C dL_at_1 rfl ?_
    refine z_slen C hX hbl hbA dL_at_2 ?_
    refine z_icmp_ge C 12 dL_at_3 (by decide) (fun _ => ?_) (fun cg => ?_)
    · refine z_ldc C (v := 937025989) wd182 dL_at_12 ?_
      refine z_iload_n C dL_at_14 rfl ?_
      refine z_iconst C (v := 1) dL_at_15 (by decide) ?_
      refine z_iadd C dL_at_16 ?_
      refine z_imul C dL_at_17 ?_
      refine z_ldc C (v := 1550557855) wd183 dL_at_18 ?_
      refine z_iadd C dL_at_20 ?_
      refine z_iret C dL_at_21 ?_
      rfl
    · have hq : t < L := by
        rw [show Int32.ofNat L = nI L from rfl, nI_leI (by omega) (by omega)] at cg
        omega
      refine z_aload_n C dL_at_6 rfl ?_
      refine z_iload_n C dL_at_7 rfl ?_
      refine z_sld C hX hbl hbA (nI_in hq (by omega)) dL_at_8 ?_
      refine z_goto C 21 dL_at_9 (by decide) ?_
      refine z_iret C dL_at_21 ?_
      rfl
  exact Z0 s.heap [] _ hP va_S.rf (lh_entry rfl hl)

section ZL
variable {p : Program} {l : Launch} {e : Env} {R : Room} {s : State} {m : MethodId} {args : Array Value} {below : List Frame} {meth : Method} {c : Code} {D : va_G} {ad : Nat → Nat → Nat} {cy : Nat → ClassId} {A : Nat → Prop} {sa : Nat → Nat} {nL cells slots : Nat} {Q : State → Prop} {σ : St} {L : List (Option Value)} {pc : Nat} {st stk : List Value} {cc : ByteArray} {own : String} {ret : Option FieldType}
theorem z_csa (C : Cx p l s m args meth c cc own nL ret D ad cy A sa) {b L0 : Nat} {xs : Nat → Int32} (hX : va_X b L0 xs s s.heap) (hbl : b < s.heap.size) (hbA : ¬ A b) {k : Int32} {idx : Nat} (M : MA l D ad cy A sa b L0 xs σ k) (hw : Cond.methodLink own idx yL_at ∈ BIG) (hR : Rok R 0 2) (hc : cells ≤ R.cells ∧ slots ≤ R.slots) (hcat : (st.map fun v => v.category).sum ≤ 8) (hdg : decode cc pc = .ok (.invokestatic idx, 3)) (kk : ∀ r : Int32, Z p l e R s m args below meth c D ad cy A nL cells slots Q σ L (pc + 3) (.int r :: st)) : Z p l e R s m args below meth c D ad cy A nL cells slots Q σ L pc (.int k :: .ref b :: st) := by
  intro H locs ls hP hS hl
  obtain ⟨hx, hb, hml, hown, hts, hr0, hlk, hF⟩ := C
  refine va_calli (va_runS (g := F0 m pc ls ([Value.ref b, .int k].reverse ++ st)) (As := [.ref b, .int k]) (rest := st) ⟨hx, hb, hml, hown, hts⟩ M (va_cwS 2 hts (okS_in okL_at.1 okL_at.2.1 okL_at.2.2.1 hw) rfl rfl rfl okL_at.2.2.2 hR) ⟨PcA.blind, fun U hU hW => ⟨rfl, hF.call hS hU hW, by rw [hU]; exact hP, by rw [hU]; exact (hX.kept (hS.2.1 b hbl hbA)).moved hW.alike, by rw [hU]; exact Nat.lt_of_lt_of_le hbl hS.1⟩⟩ rfl rfl hl.1 rfl (lv_room hcat) hdg hc) hS (fun q _ h => h) (fun q h => h) (fun r u t H1 locs1 ht hvm hw1 hB hz1 hk1 hS1 => ?_)
  have e : σ = u := hw1
  subst e
  exact kk r H1 locs1 ls (by rw [← ht]; exact hB) hS1 hl
end ZL
section
variable {p : Program} {l : Launch} {e : Env} {R : Room} {s : State} {m : MethodId} {args : Array Value} {below : List Frame} {meth : Method} {c : Code} {D : va_G} {ad : Nat → Nat → Nat} {cy : Nat → ClassId} {A : Nat → Prop} {sa : Nat → Nat} {cells slots : Nat} {σ : St}
set_option maxRecDepth 100000 in
set_option maxHeartbeats 4000000 in
theorem lp_L_stringOf (C : Cx p l s m args meth c cL_stringOf "FretSchoolLaw" 7 (some .int) D ad cy A sa) {q h f0 w : Nat} {p0 : Int32} (hq : q < 8) (hf : f0 ≤ 16) (hw : w < 5) (hh : h + 3 ≤ f0) (ef : σ 19 0 q = nI (f0 + 32 * w)) : ∀ (f j : Nat) (x : Int32) (o6 : Option Value), x = nI j → j ≤ 4 → 4 < j + f → (∀ k, k < j → ¬ lies (p0 - (fun k => σ 18 0 (4 * q + k)) k) (nI h)) → Z p l e R s m args below meth c D ad cy A 7 cells slots (MQ below (va_Qi (fun r σ' => σ = σ' ∧ r = lowS p0 (fun k => σ 18 0 (4 * q + k)) (nI h)) (Bw D ad cy) A) args s cells slots A) σ [some (.ref (ad 18 0)), some (.ref (ad 19 0)), some (.int (nI q)), some (.int p0), some (.int (nI h)), some (.int x), o6] 3 [] := by
  intro f
  induction f with
  | zero => intro j x o6 _ _ h _; exact absurd h (by omega)
  | succ f ih =>
    intro j x o6 ex hj hf9 hno
    subst ex
    refine z_iload C dL_stringOf_3 rfl ?_
    refine z_iconst C (v := 4) dL_stringOf_5 (by decide) ?_
    refine z_icmp_ge C 62 dL_stringOf_6 (by decide) (fun c_6 => ?_) (fun c_6 => ?_)
    · have hjn : 4 ≤ j := by rw [show (4 : Int32) = nI 4 from rfl, nI_leI (by omega) (by omega)] at c_6; exact c_6
      refine z_iconst C (v := (-1)) dL_stringOf_62 (by decide) ?_
      refine z_iret C dL_stringOf_63 ?_
      exact ⟨rfl, lowS_none (fun k hk => hno k (by omega))⟩
    · have hjn : j < 4 := by rw [show (4 : Int32) = nI 4 from rfl, nI_leI (by omega) (by omega)] at c_6; omega
      refine z_iload_n C dL_stringOf_9 rfl ?_
      refine z_aload_n C dL_stringOf_10 rfl ?_
      refine z_iconst C (v := 4) dL_stringOf_11 (by decide) ?_
      refine z_iload_n C dL_stringOf_12 rfl ?_
      refine z_imul C dL_stringOf_13 ?_
      refine z_iload C dL_stringOf_14 rfl ?_
      refine z_iadd C dL_stringOf_16 ?_
      rw [show (4 : Int32) = nI 4 from rfl, pk_mul, nI_add]
      refine a_18 C (j := 4 * q + j) rfl (by omega) dL_stringOf_17 ?_
      refine z_isub C dL_stringOf_18 ?_
      refine z_istore C dL_stringOf_19 (by decide) ?_
      dsimp only [List.set]
      refine z_iload C dL_stringOf_21 rfl ?_
      refine z_if_eq C 53 dL_stringOf_23 (by decide) (fun c_23 => ?_) (fun c_23 => ?_)
      · refine z_iload C dL_stringOf_53 rfl ?_
        refine z_iret C dL_stringOf_55 ?_
        refine ⟨rfl, ?_⟩
        exact lowS_at hjn hno (by first | exact Or.inl c_23 | exact Or.inr ⟨c_30, c_39⟩)
      · refine z_iload C dL_stringOf_26 rfl ?_
        refine z_iload C dL_stringOf_28 rfl ?_
        refine z_icmp_lt C 56 dL_stringOf_30 (by decide) (fun c_30 => ?_) (fun c_30 => ?_)
        · refine z_iinc C (v := 1) dL_stringOf_56 rfl (by decide) (by decide) ?_
          dsimp only [List.set]
          refine z_goto C 3 dL_stringOf_59 (by decide) ?_
          exact ih (j + 1) _ _ (by exact nI_1 j) (by omega) (by omega) (fun k hk => (Nat.lt_or_ge k j).elim (fun q => hno k q) (fun q => by rw [show k = j by omega]; exact fun hl => hl.elim c_23 (fun h => by first | exact h.1 c_30 | exact h.2 c_39)))
        · refine z_iload C dL_stringOf_33 rfl ?_
          refine z_iload C dL_stringOf_35 rfl ?_
          refine z_iconst C (v := 3) dL_stringOf_37 (by decide) ?_
          refine z_iadd C dL_stringOf_38 ?_
          refine z_icmp_gt C 56 dL_stringOf_39 (by decide) (fun c_39 => ?_) (fun c_39 => ?_)
          · refine z_iinc C (v := 1) dL_stringOf_56 rfl (by decide) (by decide) ?_
            dsimp only [List.set]
            refine z_goto C 3 dL_stringOf_59 (by decide) ?_
            exact ih (j + 1) _ _ (by exact nI_1 j) (by omega) (by omega) (fun k hk => (Nat.lt_or_ge k j).elim (fun q => hno k q) (fun q => by rw [show k = j by omega]; exact fun hl => hl.elim c_23 (fun h => by first | exact h.1 c_30 | exact h.2 c_39)))
          · refine z_iload C dL_stringOf_42 rfl ?_
            refine z_aload_n C dL_stringOf_44 rfl ?_
            refine z_iload_n C dL_stringOf_45 rfl ?_
            refine a_19 C (j := q) rfl hq dL_stringOf_46 ?_
            refine z_bipush C (v := 32) dL_stringOf_47 (by decide) ?_
            refine z_irem C (by decide) dL_stringOf_49 ?_
            rw [ef, rem32 (by omega) (by omega)]
            refine z_icmp_gt C 56 dL_stringOf_50 (by decide) (fun c_50 => ?_) (fun c_50 => ?_)
            · exfalso
              obtain ⟨v, hv⟩ : ∃ v, p0 - σ 18 0 (4 * q + j) = v := ⟨_, rfl⟩
              rw [hv] at c_39 c_50
              rw [show (3 : Int32) = nI 3 from rfl, nI_add] at c_39
              have a1 := Int32.lt_iff_toInt_lt.mp c_50
              have a2 : ¬ (nI (h + 3)).toInt < v.toInt := fun z => c_39 (Int32.lt_iff_toInt_lt.mpr z)
              rw [nI_toInt (by omega)] at a1 a2
              omega
            refine z_iload C dL_stringOf_53 rfl ?_
            refine z_iret C dL_stringOf_55 ?_
            refine ⟨rfl, ?_⟩
            exact lowS_at hjn hno (by first | exact Or.inl c_23 | exact Or.inr ⟨c_30, c_39⟩)
end
set_option maxRecDepth 100000 in
set_option maxHeartbeats 4000000 in
theorem c_L_stringOf {l : Launch} {D : va_G} {ad : Nat → Nat → Nat} {cy : Nat → ClassId} {A : Nat → Prop} {sa : Nat → Nat} {σ : St} {q h f0 w : Nat} {p0 : Int32} (hq : q < 8) (hf : f0 ≤ 16) (hw : w < 5) (hh : h + 3 ≤ f0) (ef : σ 19 0 q = nI (f0 + 32 * w)) : MI l D ad cy A sa yL_stringOf cL_stringOf 7 (some .int) 0 σ [.ref (ad 18 0), .ref (ad 19 0), .int (nI q), .int p0, .int (nI h)] (fun r σ' => σ = σ' ∧ r = lowS p0 (fun k => σ 18 0 (4 * q + k)) (nI h)) := by
  refine MI.mk "FretSchoolLaw" (by decide) rfl (Nat.le_of_ble_eq_true rfl) rfl ?_
  intro p e s m args below meth c C
  change Z _ _ _ _ _ _ _ _ _ _ _ _ _ _ _ _ _ _ _ [some (.ref (ad 18 0)), some (.ref (ad 19 0)), some (.int (nI q)), some (.int p0), some (.int (nI h)), none, none] 0 []
  refine z_iconst C (v := 0) dL_stringOf_0 (by decide) ?_
  refine z_istore C dL_stringOf_1 (by decide) ?_
  dsimp only [List.set]
  exact lp_L_stringOf C hq hf hw hh ef 5 0 _ _ nI_0.symm (by omega) (by omega) (fun k hk => absurd hk (Nat.not_lt_zero k))
