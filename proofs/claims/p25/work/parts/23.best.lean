/-! ===== the best row ===== -/
section
variable {p : Program} {l : Launch} {e : Env} {R : Room} {s : State} {m : MethodId} {args : Array Value} {below : List Frame} {meth : Method} {c : Code} {D : va_G} {ad : Nat → Nat → Nat} {cy : Nat → ClassId} {A : Nat → Prop} {sa : Nat → Nat} {cells slots : Nat} {σ : St}
set_option maxRecDepth 100000 in
set_option maxHeartbeats 4000000 in
theorem lp_X0_chooseRow (C : Cx p l s m args meth c cX0_chooseRow "FretSchool$Hand" 6 (some .boolean) D ad cy A sa) {n : Nat} {x1 : Int32} {P : Nat → Nat → Bool} (e1 : x1 = nI n) (hn : n ≤ 16) (hrows : ∀ i, i < n → ∀ g, 1 ≤ g → g ≤ 13 → σ 10 i g = nI (VR P (n - 1 - i) i g)) : ∀ (f j : Nat) (σ' : St) (x2 x3 : Int32) (o4 o5 : Option Value), x2 = nI (bef P n j) → x3 = nI j → j ≤ n → n < j + f → (0 < j → tot P n < FARn) → (∀ a b c0, a ≠ 6 → a ≠ 9 → σ' a b c0 = σ a b c0) → σ' 6 0 3 = nI (sumf P n j) → σ' 6 0 4 = nI (grt P n j) → (∀ i, i < j → σ' 9 0 i = nI (rowf P n i)) → Z p l e (rmD 3 0) s m args below meth c D ad cy A 6 0 0 (MQ below (va_Qi (fun r σ' => (∀ a b c0, a ≠ 6 → a ≠ 9 → σ' a b c0 = σ a b c0) ∧ ((r = 1 ∧ (0 < n → tot P n < FARn) ∧ σ' 6 0 3 = nI (sumf P n n) ∧ σ' 6 0 4 = nI (grt P n n) ∧ ∀ i, i < n → σ' 9 0 i = nI (rowf P n i)) ∨ (r = 0 ∧ 0 < n ∧ tot P n = FARn))) (Bw D ad cy) A) args s 0 0 A) σ' [some (.ref (ad 6 0)), some (.int x1), some (.int x2), some (.int x3), o4, o5] 14 [] := by
  intro f
  induction f with
  | zero => intro j σ' x2 x3 o4 o5 _ _ _ h; exact absurd h (by omega)
  | succ f ih =>
    intro j σ' x2 x3 o4 o5 e2 e3 hj hf ht hfr hsum hgrt hrow
    refine z_iload_n C dX0_chooseRow_14 rfl ?_
    refine z_iload_n C dX0_chooseRow_15 rfl ?_
    refine z_icmp_ge C 92 dX0_chooseRow_16 (by decide) (fun c_16 => ?_) (fun c_16 => ?_)
    · have hjn : j = n := by rw [e1, e3, nI_leI (by omega) (by omega)] at c_16; omega
      refine z_iconst C (v := 1) dX0_chooseRow_92 (by decide) ?_
      refine z_zret C dX0_chooseRow_93 (by first | exact Or.inl rfl | exact Or.inr rfl | assumption) ?_
      subst hjn
      exact ⟨hfr, Or.inl ⟨rfl, ht, hsum, hgrt, hrow⟩⟩
    · have hjn : j < n := by rw [e1, e3, nI_leI (by omega) (by omega)] at c_16; omega
      have hbef : bef P n j < 14 := by
        cases j with
        | zero => show 0 < 14; omega
        | succ j => have := (row_spec (P := P) (n := n) (by omega) (ht (by omega)) j (by omega)).2.1; show rowf P n j < 14; omega
      refine z_aload_n C dX0_chooseRow_19 rfl ?_
      refine z_iload_n C dX0_chooseRow_20 rfl ?_
      refine z_iload_n C dX0_chooseRow_21 rfl ?_
      refine z_cvi C (As := [_, _]) (c_X0_nearest (i := j) (b := bef P n j) (v := fun g => VR P (n - 1 - j) j g) e3 (by omega) e2 hbef (fun g h1 h2 => ⟨by rw [hfr 10 j g (by omega) (by omega)]; exact hrows j hjn g h1 h2, VR_le _ _ _ _⟩)) okX0_nearest wd313 rc_6 (rok (by decide) (by decide)) ⟨Nat.le_of_ble_eq_true rfl, Nat.le_of_ble_eq_true rfl⟩ rfl (Nat.le_of_ble_eq_true rfl) dX0_chooseRow_22 ?_
      rintro r22 _ ⟨e22, rfl⟩
      rw [← rowf_am] at e22
      refine z_istore C dX0_chooseRow_25 (by decide) ?_
      dsimp only [List.set]
      refine z_iload C dX0_chooseRow_27 rfl ?_
      refine z_if_ne C 34 dX0_chooseRow_29 (by decide) (fun c_29 => ?_) (fun c_29 => ?_)
      · have ham := am_spec (fun g => sh (bef P n j) g + VR P (n - 1 - j) j g) 13
        rw [← rowf_am] at ham
        obtain ⟨ha1, ha2, ha3, ha4⟩ : 1 ≤ rowf P n j ∧ rowf P n j ≤ 13 ∧ (fun g => sh (bef P n j) g + VR P (n - 1 - j) j g) (rowf P n j) = mn (fun g => sh (bef P n j) g + VR P (n - 1 - j) j g) 13 ∧ mn (fun g => sh (bef P n j) g + VR P (n - 1 - j) j g) 13 < FARn := by
          rcases ham with ⟨h1, _, _⟩ | ⟨h1, h2, h3, h4, _, _⟩
          · rw [e22, h1] at c_29; exact absurd rfl c_29
          · exact ⟨h1, h2, h3, h4⟩
        have htot : tot P n < FARn := by
          cases j with
          | zero => exact ha4
          | succ j => exact ht (by omega)
        have hsl := sh_le (b := bef P n j) (h := rowf P n j) (by omega) (by omega)
        have hgl := grt_le (P := P) (n := n) (by omega) htot j (by omega)
        refine z_iload_n C dX0_chooseRow_34 rfl ?_
        refine z_iload C dX0_chooseRow_35 rfl ?_
        refine z_csi C (As := [_, _]) (c_X0_shift e2 e22 (by omega) (by omega)) okX0_shift wd318 (rok (by decide) (by decide)) ⟨Nat.le_of_ble_eq_true rfl, Nat.le_of_ble_eq_true rfl⟩ rfl (Nat.le_of_ble_eq_true rfl) dX0_chooseRow_37 ?_
        rintro r37 _ ⟨e37, rfl⟩
        refine z_istore C dX0_chooseRow_40 (by decide) ?_
        dsimp only [List.set]
        refine z_aload_n C dX0_chooseRow_42 rfl ?_
        refine z_dup C dX0_chooseRow_43 rfl ?_
        refine g_6_3 C wd125 dX0_chooseRow_44 ?_
        refine z_iload C dX0_chooseRow_47 rfl ?_
        refine z_iadd C dX0_chooseRow_49 ?_
        refine p_6_3 C wd125 dX0_chooseRow_50 ?_
        refine z_aload_n C dX0_chooseRow_53 rfl ?_
        refine z_iload C dX0_chooseRow_54 rfl ?_
        refine z_aload_n C dX0_chooseRow_56 rfl ?_
        refine g_6_4 C wd127 dX0_chooseRow_57 ?_
        refine z_icmp_le C 68 dX0_chooseRow_60 (by decide) (fun c_60 => ?_) (fun c_60 => ?_)
        · refine z_aload_n C dX0_chooseRow_68 rfl ?_
          refine g_6_4 C wd127 dX0_chooseRow_69 ?_
          refine p_6_4 C wd127 dX0_chooseRow_72 ?_
          refine z_aload_n C dX0_chooseRow_75 rfl ?_
          refine g_6_2 C wd123 dX0_chooseRow_76 ?_
          refine z_iload_n C dX0_chooseRow_79 rfl ?_
          refine z_iload C dX0_chooseRow_80 rfl ?_
          refine s_9 C e3 (by omega) dX0_chooseRow_82 ?_
          refine z_iload C dX0_chooseRow_83 rfl ?_
          refine z_istore_n C dX0_chooseRow_85 (by decide) ?_
          dsimp only [List.set]
          refine z_iinc C (v := 1) dX0_chooseRow_86 rfl (by decide) (by decide) ?_
          dsimp only [List.set]
          refine z_goto C 14 dX0_chooseRow_89 (by decide) ?_
          refine ih (j + 1) _ _ _ _ _ e22 (by rw [e3]; exact nI_1 j) (by omega) (by omega) (fun _ => htot) (fun a b c0 h6 h9 => ?_) ?_ ?_ (fun i hi => ?_)
          · simp only [up_app, h6, h9, false_and, if_false]
            exact hfr a b c0 h6 h9
          · simp only [up_app]
            simp only [Nat.reduceEqDiff, false_and, and_false, and_true, if_false, if_true, hsum, e37, nI_add]
            rfl
          · simp only [up_app] at c_60 ⊢
            simp only [Nat.reduceEqDiff, false_and, and_false, and_true, if_false, if_true, hgrt, e37] at c_60 ⊢
            rw [nI_leI (by omega) (by omega)] at c_60
            show _ = nI (if grt P n j < sh (bef P n j) (rowf P n j) then sh (bef P n j) (rowf P n j) else grt P n j)
            rw [if_neg (by omega)]
          · simp only [up_app]
            simp only [Nat.reduceEqDiff, false_and, and_false, and_true, true_and, if_false, if_true]
            rcases Nat.lt_or_ge i j with q | q
            · rw [if_neg (by omega)]
              exact hrow i q
            · rw [if_pos (by omega), show i = j by omega]
              exact e22
        · refine z_iload C dX0_chooseRow_63 rfl ?_
          refine z_goto C 72 dX0_chooseRow_65 (by decide) ?_
          refine p_6_4 C wd127 dX0_chooseRow_72 ?_
          refine z_aload_n C dX0_chooseRow_75 rfl ?_
          refine g_6_2 C wd123 dX0_chooseRow_76 ?_
          refine z_iload_n C dX0_chooseRow_79 rfl ?_
          refine z_iload C dX0_chooseRow_80 rfl ?_
          refine s_9 C e3 (by omega) dX0_chooseRow_82 ?_
          refine z_iload C dX0_chooseRow_83 rfl ?_
          refine z_istore_n C dX0_chooseRow_85 (by decide) ?_
          dsimp only [List.set]
          refine z_iinc C (v := 1) dX0_chooseRow_86 rfl (by decide) (by decide) ?_
          dsimp only [List.set]
          refine z_goto C 14 dX0_chooseRow_89 (by decide) ?_
          refine ih (j + 1) _ _ _ _ _ e22 (by rw [e3]; exact nI_1 j) (by omega) (by omega) (fun _ => htot) (fun a b c0 h6 h9 => ?_) ?_ ?_ (fun i hi => ?_)
          · simp only [up_app, h6, h9, false_and, if_false]
            exact hfr a b c0 h6 h9
          · simp only [up_app]
            simp only [Nat.reduceEqDiff, false_and, and_false, and_true, if_false, if_true, hsum, e37, nI_add]
            rfl
          · simp only [up_app] at c_60 ⊢
            simp only [Nat.reduceEqDiff, false_and, and_false, and_true, if_false, if_true, hgrt, e37] at c_60 ⊢
            rw [nI_leI (by omega) (by omega)] at c_60
            show _ = nI (if grt P n j < sh (bef P n j) (rowf P n j) then sh (bef P n j) (rowf P n j) else grt P n j)
            rw [if_pos (by omega)]
          · simp only [up_app]
            simp only [Nat.reduceEqDiff, false_and, and_false, and_true, true_and, if_false, if_true]
            rcases Nat.lt_or_ge i j with q | q
            · rw [if_neg (by omega)]
              exact hrow i q
            · rw [if_pos (by omega), show i = j by omega]
              exact e22
      · have ham := am_spec (fun g => sh (bef P n j) g + VR P (n - 1 - j) j g) 13
        rw [← rowf_am] at ham
        obtain ⟨hz1, hz2⟩ : rowf P n j = 0 ∧ mn (fun g => sh (bef P n j) g + VR P (n - 1 - j) j g) 13 = FARn := by
          rcases ham with ⟨h1, h2, _⟩ | ⟨h1, h2, h3, h4, _, _⟩
          · exact ⟨h1, h2⟩
          · rw [e22, nI_ne0' (by omega)] at c_29; omega
        have hj0 : j = 0 := by
          cases j with
          | zero => rfl
          | succ j => have := (row_spec (P := P) (n := n) (by omega) (ht (by omega)) (j + 1) (by omega)).1; omega
        refine z_iconst C (v := 0) dX0_chooseRow_32 (by decide) ?_
        refine z_zret C dX0_chooseRow_33 (by first | exact Or.inl rfl | exact Or.inr rfl | assumption) ?_
        refine ⟨hfr, Or.inr ⟨rfl, by omega, ?_⟩⟩
        subst hj0
        exact hz2
end
set_option maxRecDepth 100000 in
set_option maxHeartbeats 4000000 in
theorem c_X0_chooseRow {l : Launch} {D : va_G} {ad : Nat → Nat → Nat} {cy : Nat → ClassId} {A : Nat → Prop} {sa : Nat → Nat} {σ : St} {n : Nat} {x1 : Int32} {P : Nat → Nat → Bool} (e1 : x1 = nI n) (hn : n ≤ 16) (hrows : ∀ i, i < n → ∀ g, 1 ≤ g → g ≤ 13 → σ 10 i g = nI (VR P (n - 1 - i) i g)) : MI l D ad cy A sa yX0_chooseRow cX0_chooseRow 6 (some .boolean) 3 σ [.ref (ad 6 0), .int x1] (fun r σ' => (∀ a b c0, a ≠ 6 → a ≠ 9 → σ' a b c0 = σ a b c0) ∧ ((r = 1 ∧ (0 < n → tot P n < FARn) ∧ σ' 6 0 3 = nI (sumf P n n) ∧ σ' 6 0 4 = nI (grt P n n) ∧ ∀ i, i < n → σ' 9 0 i = nI (rowf P n i)) ∨ (r = 0 ∧ 0 < n ∧ tot P n = FARn))) := by
  refine MI.mk "FretSchool$Hand" (by decide) rfl (Nat.le_of_ble_eq_true rfl) rfl ?_
  intro p e s m args below meth c C
  change Z _ _ _ _ _ _ _ _ _ _ _ _ _ _ _ _ _ _ _ [some (.ref (ad 6 0)), some (.int x1), none, none, none, none] 0 []
  refine z_aload_n C dX0_chooseRow_0 rfl ?_
  refine z_iconst C (v := 0) dX0_chooseRow_1 (by decide) ?_
  refine p_6_3 C wd125 dX0_chooseRow_2 ?_
  refine z_aload_n C dX0_chooseRow_5 rfl ?_
  refine z_iconst C (v := 0) dX0_chooseRow_6 (by decide) ?_
  refine p_6_4 C wd127 dX0_chooseRow_7 ?_
  refine z_iconst C (v := 0) dX0_chooseRow_10 (by decide) ?_
  refine z_istore_n C dX0_chooseRow_11 (by decide) ?_
  dsimp only [List.set]
  refine z_iconst C (v := 0) dX0_chooseRow_12 (by decide) ?_
  refine z_istore_n C dX0_chooseRow_13 (by decide) ?_
  dsimp only [List.set]
  exact lp_X0_chooseRow C e1 hn hrows (n + 1) 0 _ _ _ _ _ rfl nI_0.symm (by omega) (by omega) (fun h => absurd h (by omega)) (fun a b c0 h6 h9 => by simp only [up_app, h6, false_and, if_false]) (by simp only [up_app]; rfl) (by simp only [up_app]; rfl) (fun i hi => absurd hi (by omega))
theorem sumf_tot {P : Nat → Nat → Bool} {n : Nat} (h0 : 0 < n) (ht : tot P n < FARn) : sumf P n n = tot P n := by
  obtain ⟨_, _, h3, _, h5, _⟩ := row_spec h0 ht (n - 1) (by omega)
  rw [show n - 1 - (n - 1) = 0 by omega, VR_last h3, show n - 1 + 1 = n by omega] at h5
  exact h5
section
variable {p : Program} {l : Launch} {e : Env} {R : Room} {s : State} {m : MethodId} {args : Array Value} {below : List Frame} {meth : Method} {c : Code} {D : va_G} {ad : Nat → Nat → Nat} {cy : Nat → ClassId} {A : Nat → Prop} {sa : Nat → Nat} {cells slots : Nat} {σ : St}
set_option maxRecDepth 100000 in
set_option maxHeartbeats 4000000 in
theorem lp_X0_placeBest (C : Cx p l s m args meth c cX0_placeBest "FretSchool$Hand" 4 (some .boolean) D ad cy A sa) {p0 q0 n f0 : Nat} (hp0 : p0 < 8) (hq0 : q0 < 8) (hn : σ 11 p0 1 = nI n) (hn16 : n ≤ 16) (hf0 : σ 13 q0 2 = nI f0) (hf4 : 4 ≤ f0) (hf16 : f0 ≤ 16) : ∀ (j : Nat) (σ' : St) (x3 : Int32), x3 + 1 = nI j → j ≤ n → (∀ a b c0, a ≠ 7 → a ≠ 10 → σ' a b c0 = σ a b c0) → (∀ i, i < n → ∀ h, 1 ≤ h → h ≤ 13 → (σ' 7 0 i &&& (1 <<< (nI h &&& 31)) = 0 ↔ ¬ Pf σ p0 q0 f0 i h = true)) → (∀ i, j ≤ i → i < n → ∀ g, 1 ≤ g → g ≤ 13 → σ' 10 i g = nI (VR (Pf σ p0 q0 f0) (n - 1 - i) i g)) → Z p l e (rmD 4 0) s m args below meth c D ad cy A 4 0 0 (MQ below (va_Qi (fun r σ' => (∀ a b c0, a ≠ 6 → a ≠ 7 → a ≠ 9 → a ≠ 10 → σ' a b c0 = σ a b c0) ∧ ((r = 1 ∧ 0 < n ∧ tot (Pf σ p0 q0 f0) n < FARn ∧ σ' 6 0 3 = nI (tot (Pf σ p0 q0 f0) n) ∧ σ' 6 0 4 = nI (grt (Pf σ p0 q0 f0) n n) ∧ ∀ i, i < n → σ' 9 0 i = nI (rowf (Pf σ p0 q0 f0) n i)) ∨ (r = 0 ∧ (n = 0 ∨ tot (Pf σ p0 q0 f0) n = FARn)))) (Bw D ad cy) A) args s 0 0 A) σ' [some (.ref (ad 6 0)), some (.ref (ad 11 p0)), some (.ref (ad 13 q0)), some (.int x3)] 13 [] := by
  intro j
  induction j with
  | zero =>
    intro σ' x3 e3 hj hfr hbits hrows
    have hn' : σ' 11 p0 1 = nI n := by rw [hfr 11 p0 1 (by omega) (by omega)]; exact hn
    have hx : x3 < 0 := by
      have h1 : x3 = -1 := by
        have h2 : x3 + 1 - 1 = nI 0 - 1 := by rw [e3]
        rw [Int32.add_sub_cancel] at h2
        rw [h2]
        decide
      rw [h1]
      decide
    refine z_iload_n C dX0_placeBest_13 rfl ?_
    refine z_if_lt C 43 dX0_placeBest_14 (by decide) (fun c_14 => ?_) (fun c_14 => ?_)
    rotate_left
    · exact absurd hx c_14
    refine z_aload_n C dX0_placeBest_43 rfl ?_
    refine g_11_1 hp0 C wd46 dX0_placeBest_44 ?_
    refine z_if_le C 65 dX0_placeBest_47 (by decide) (fun c_47 => ?_) (fun c_47 => ?_)
    · have hn0 : n = 0 := by rw [hn', show (0 : Int32) = nI 0 from rfl, nI_leI (by omega) (by omega)] at c_47; omega
      refine z_iconst C (v := 0) dX0_placeBest_65 (by decide) ?_
      refine z_zret C dX0_placeBest_66 (by first | exact Or.inl rfl | exact Or.inr rfl | assumption) ?_
      exact ⟨fun a b c0 _ h7 _ h10 => hfr a b c0 h7 h10, Or.inr ⟨rfl, Or.inl hn0⟩⟩
    · have hn0 : 0 < n := by rw [hn', show (0 : Int32) = nI 0 from rfl, nI_leI (by omega) (by omega)] at c_47; omega
      refine z_aload_n C dX0_placeBest_50 rfl ?_
      refine z_aload_n C dX0_placeBest_51 rfl ?_
      refine g_11_1 hp0 C wd46 dX0_placeBest_52 ?_
      refine z_cvi C (As := [_]) (c_X0_chooseRow (n := n) (P := (Pf σ p0 q0 f0)) hn' hn16 (fun i hi g h1 h2 => hrows i (by omega) hi g h1 h2)) okX0_chooseRow wd327 rc_6 (rok (by decide) (by decide)) ⟨Nat.le_of_ble_eq_true rfl, Nat.le_of_ble_eq_true rfl⟩ rfl (Nat.le_of_ble_eq_true rfl) dX0_placeBest_55 ?_
      rintro r55 σ2 ⟨hf2, hp55⟩
      refine z_if_eq C 65 dX0_placeBest_58 (by decide) (fun c_58 => ?_) (fun c_58 => ?_)
      · obtain ⟨ht, hz⟩ : tot (Pf σ p0 q0 f0) n = FARn ∧ True := by
          rcases hp55 with ⟨h1, _⟩ | ⟨_, _, h3⟩
          · rw [h1] at c_58; exact absurd c_58 (by decide)
          · exact ⟨h3, trivial⟩
        refine z_iconst C (v := 0) dX0_placeBest_65 (by decide) ?_
        refine z_zret C dX0_placeBest_66 (by first | exact Or.inl rfl | exact Or.inr rfl | assumption) ?_
        exact ⟨fun a b c0 h6 h7 h9 h10 => by rw [hf2 a b c0 h6 h9]; exact hfr a b c0 h7 h10, Or.inr ⟨rfl, Or.inr ht⟩⟩
      · obtain ⟨ht, hs3, hs4, hs9⟩ : tot (Pf σ p0 q0 f0) n < FARn ∧ σ2 6 0 3 = nI (sumf (Pf σ p0 q0 f0) n n) ∧ σ2 6 0 4 = nI (grt (Pf σ p0 q0 f0) n n) ∧ ∀ i, i < n → σ2 9 0 i = nI (rowf (Pf σ p0 q0 f0) n i) := by
          rcases hp55 with ⟨_, h2, h3, h4, h5⟩ | ⟨h1, _, _⟩
          · exact ⟨h2 hn0, h3, h4, h5⟩
          · exact absurd h1 c_58
        refine z_iconst C (v := 1) dX0_placeBest_61 (by decide) ?_
        refine z_goto C 66 dX0_placeBest_62 (by decide) ?_
        refine z_zret C dX0_placeBest_66 (by first | exact Or.inl rfl | exact Or.inr rfl | assumption) ?_
        exact ⟨fun a b c0 h6 h7 h9 h10 => by rw [hf2 a b c0 h6 h9]; exact hfr a b c0 h7 h10, Or.inl ⟨rfl, hn0, ht, by rw [hs3, sumf_tot hn0 ht], hs4, hs9⟩⟩
  | succ j ih =>
    intro σ' x3 e3 hj hfr hbits hrows
    have hn' : σ' 11 p0 1 = nI n := by rw [hfr 11 p0 1 (by omega) (by omega)]; exact hn
    have e3 : x3 = nI j := by
      have h2 : x3 + 1 - 1 = nI (j + 1) - 1 := by rw [e3]
      rw [Int32.add_sub_cancel, nI_pred] at h2
      exact h2
    refine z_iload_n C dX0_placeBest_13 rfl ?_
    refine z_if_lt C 43 dX0_placeBest_14 (by decide) (fun c_14 => ?_) (fun c_14 => ?_)
    · exact absurd c_14 (by rw [e3]; exact nI_pos (by omega))
    refine z_aload_n C dX0_placeBest_17 rfl ?_
    refine z_iload_n C dX0_placeBest_18 rfl ?_
    refine z_iload_n C dX0_placeBest_19 rfl ?_
    refine z_aload_n C dX0_placeBest_20 rfl ?_
    refine g_11_1 hp0 C wd46 dX0_placeBest_21 ?_
    refine z_iconst C (v := 1) dX0_placeBest_24 (by decide) ?_
    refine z_isub C dX0_placeBest_25 ?_
    refine z_icmp_ne C 33 dX0_placeBest_26 (by decide) (fun c_26 => ?_) (fun c_26 => ?_)
    · have hjn : ¬ j = n - 1 := by rw [e3, hn', show nI n - 1 = nI (n - 1) by rw [show (1 : Int32) = nI 1 from rfl, pk_sub (by omega)], nI_eq (by omega) (by omega)] at c_26; exact c_26
      refine z_iconst C (v := 0) dX0_placeBest_33 (by decide) ?_
      refine z_cvv C (As := [_, _]) (c_X0_measureRest (i := j) (k := n - 1 - j) (P := (Pf σ p0 q0 f0)) e3 (by omega) (fun h h1 h2 => hbits j (by omega) h h1 h2) (Or.inr ⟨rfl, by omega, n - 1 - (j + 1), by omega, fun g h1 h2 => hrows (j + 1) (by omega) (by omega) g h1 h2⟩)) okX0_measureRest wd309 rc_6 (rok (by decide) (by decide)) ⟨Nat.le_of_ble_eq_true rfl, Nat.le_of_ble_eq_true rfl⟩ rfl (Nat.le_of_ble_eq_true rfl) dX0_placeBest_34 ?_
      rintro σ2 ⟨hr2, hf2⟩
      refine z_iinc C (v := (-1)) dX0_placeBest_37 rfl (by decide) (by decide) ?_
      dsimp only [List.set]
      refine z_goto C 13 dX0_placeBest_40 (by decide) ?_
      exact ih _ _ (by rw [e3, show nI j + (-1) + 1 = nI j by rw [Int32.add_assoc]; exact Int32.add_zero _]) (by omega) (fun a b c0 h7 h10 => by rw [hf2 a b c0 (fun q => h10 q.1)]; exact hfr a b c0 h7 h10) (fun i hi h h1 h2 => by rw [hf2 7 0 i (by omega)]; exact hbits i hi h h1 h2) (fun i h1 h2 g g1 g2 => (Nat.eq_or_lt_of_le h1).elim (fun q => by subst q; exact hr2 g g1 g2) (fun q => by rw [hf2 10 i g (by omega)]; exact hrows i q h2 g g1 g2))
    · have hjn : j = n - 1 := by rw [e3, hn', show nI n - 1 = nI (n - 1) by rw [show (1 : Int32) = nI 1 from rfl, pk_sub (by omega)], nI_eq (by omega) (by omega)] at c_26; exact c_26
      refine z_iconst C (v := 1) dX0_placeBest_29 (by decide) ?_
      refine z_goto C 34 dX0_placeBest_30 (by decide) ?_
      refine z_cvv C (As := [_, _]) (c_X0_measureRest (i := j) (k := n - 1 - j) (P := (Pf σ p0 q0 f0)) e3 (by omega) (fun h h1 h2 => hbits j (by omega) h h1 h2) (Or.inl ⟨by omega, rfl⟩)) okX0_measureRest wd309 rc_6 (rok (by decide) (by decide)) ⟨Nat.le_of_ble_eq_true rfl, Nat.le_of_ble_eq_true rfl⟩ rfl (Nat.le_of_ble_eq_true rfl) dX0_placeBest_34 ?_
      rintro σ2 ⟨hr2, hf2⟩
      refine z_iinc C (v := (-1)) dX0_placeBest_37 rfl (by decide) (by decide) ?_
      dsimp only [List.set]
      refine z_goto C 13 dX0_placeBest_40 (by decide) ?_
      exact ih _ _ (by rw [e3, show nI j + (-1) + 1 = nI j by rw [Int32.add_assoc]; exact Int32.add_zero _]) (by omega) (fun a b c0 h7 h10 => by rw [hf2 a b c0 (fun q => h10 q.1)]; exact hfr a b c0 h7 h10) (fun i hi h h1 h2 => by rw [hf2 7 0 i (by omega)]; exact hbits i hi h h1 h2) (fun i h1 h2 g g1 g2 => (Nat.eq_or_lt_of_le h1).elim (fun q => by subst q; exact hr2 g g1 g2) (fun q => by rw [hf2 10 i g (by omega)]; exact hrows i q h2 g g1 g2))
end
set_option maxRecDepth 100000 in
set_option maxHeartbeats 4000000 in
theorem c_X0_placeBest {l : Launch} {D : va_G} {ad : Nat → Nat → Nat} {cy : Nat → ClassId} {A : Nat → Prop} {sa : Nat → Nat} {σ : St} {p0 q0 n f0 : Nat} (hp0 : p0 < 8) (hq0 : q0 < 8) (hn : σ 11 p0 1 = nI n) (hn16 : n ≤ 16) (hf0 : σ 13 q0 2 = nI f0) (hf4 : 4 ≤ f0) (hf16 : f0 ≤ 16) : MI l D ad cy A sa yX0_placeBest cX0_placeBest 4 (some .boolean) 4 σ [.ref (ad 6 0), .ref (ad 11 p0), .ref (ad 13 q0)] (fun r σ' => (∀ a b c0, a ≠ 6 → a ≠ 7 → a ≠ 9 → a ≠ 10 → σ' a b c0 = σ a b c0) ∧ ((r = 1 ∧ 0 < n ∧ tot (Pf σ p0 q0 f0) n < FARn ∧ σ' 6 0 3 = nI (tot (Pf σ p0 q0 f0) n) ∧ σ' 6 0 4 = nI (grt (Pf σ p0 q0 f0) n n) ∧ ∀ i, i < n → σ' 9 0 i = nI (rowf (Pf σ p0 q0 f0) n i)) ∨ (r = 0 ∧ (n = 0 ∨ tot (Pf σ p0 q0 f0) n = FARn)))) := by
  refine MI.mk "FretSchool$Hand" (by decide) rfl (Nat.le_of_ble_eq_true rfl) rfl ?_
  intro p e s m args below meth c C
  change Z _ _ _ _ _ _ _ _ _ _ _ _ _ _ _ _ _ _ _ [some (.ref (ad 6 0)), some (.ref (ad 11 p0)), some (.ref (ad 13 q0)), none] 0 []
  refine z_aload_n C dX0_placeBest_0 rfl ?_
  refine z_aload_n C dX0_placeBest_1 rfl ?_
  refine z_aload_n C dX0_placeBest_2 rfl ?_
  refine z_cvv C (As := [_, _]) (c_X0_feelReach hp0 hq0 hn hn16 hf0 hf4 hf16) okX0_feelReach wd297 rc_6 (rok (by decide) (by decide)) ⟨Nat.le_of_ble_eq_true rfl, Nat.le_of_ble_eq_true rfl⟩ rfl (Nat.le_of_ble_eq_true rfl) dX0_placeBest_3 ?_
  rintro σ1 ⟨hf1, hb1⟩
  have hn1 : σ1 11 p0 1 = nI n := by rw [hf1 11 p0 1 (by omega)]; exact hn
  refine z_aload_n C dX0_placeBest_6 rfl ?_
  refine g_11_1 hp0 C wd46 dX0_placeBest_7 ?_
  refine z_iconst C (v := 1) dX0_placeBest_10 (by decide) ?_
  refine z_isub C dX0_placeBest_11 ?_
  refine z_istore_n C dX0_placeBest_12 (by decide) ?_
  dsimp only [List.set]
  exact lp_X0_placeBest C hp0 hq0 hn hn16 hf0 hf4 hf16 n σ1 _ (by rw [hn1, Int32.sub_add_cancel]) (by omega) (fun a b c0 h7 _ => hf1 a b c0 h7) hb1 (fun i h1 h2 => absurd h2 (by omega))
