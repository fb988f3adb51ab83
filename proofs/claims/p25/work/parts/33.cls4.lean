/-! ===== the class FretSchool: learn, next ===== -/
noncomputable def esV (σ : St) (w : Int32) (jx : Nat) : Nat → Int32
  | 0 => -1
  | q + 1 => if lsV σ w jx q = -1 then esV σ w jx q else if esV σ w jx q = -1 then lsV σ w jx q else if esV σ w jx q ≤ lsV σ w jx q then esV σ w jx q else lsV σ w jx q
theorem esV_s {σ : St} {w : Int32} {jx q : Nat} : esV σ w jx (q + 1) = if lsV σ w jx q = -1 then esV σ w jx q else if esV σ w jx q = -1 then lsV σ w jx q else if esV σ w jx q ≤ lsV σ w jx q then esV σ w jx q else lsV σ w jx q := rfl
theorem SameC.ees {σ σ' : St} (h : SameC σ σ') (w : Int32) (j : Nat) : ∀ q, esV σ' w j q = esV σ w j q
  | 0 => rfl
  | q + 1 => by rw [esV_s, esV_s, h.ees w j q, h.els]
theorem ok_inst {j n : Nat} (h : j < n) (hn : n ≤ 8) : ¬ bad (nI j) (nI n) := fun q => q.elim (nI_pos (by omega)) (fun q => q (nI_lt h (by omega)))
theorem ix_nI {j : Nat} (h : j < 2 ^ 31) : ix (nI j) = j := nI_clamp h
section
variable {p : Program} {l : Launch} {e : Env} {R : Room} {s : State} {m : MethodId} {args : Array Value} {below : List Frame} {meth : Method} {c : Code} {D : va_G} {ad : Nat → Nat → Nat} {cy : Nat → ClassId} {A : Nat → Prop} {sa : Nat → Nat} {cells slots : Nat} {σ : St}
set_option maxRecDepth 100000 in
set_option maxHeartbeats 4000000 in
theorem lp_X5_easiestShift (C : Cx p l s m args meth c cX5_easiestShift "FretSchool" 6 (some .int) D ad cy A sa) {w x : Int32} {ni : Nat} (hI : Inv σ) (hw : w = nI (ix w)) (hw5 : ix w < 5) (hr2 : ¬ bad x (σ 0 0 6)) (eni : σ 0 0 7 = nI ni) (hni : ni ≤ 8) : ∀ (f j : Nat) (σ' : St) (x3 x4 : Int32) (o5 : Option Value), x4 = nI j → x3 = esV σ w (ix x) j → j ≤ ni → ni < j + f → SameC σ σ' → Z p l e (rmD 7 0) s m args below meth c D ad cy A 6 0 0 (MQ below (va_Qi (fun r σ' => SameC σ σ' ∧ r = esV σ w (ix x) ni) (Bw D ad cy) A) args s 0 0 A) σ' [some (.ref (ad 0 0)), some (.int w), some (.int x), some (.int x3), some (.int x4), o5] 5 [] := by
  intro f
  induction f with
  | zero => intro j σ' x3 x4 o5 _ _ _ h; exact absurd h (by omega)
  | succ f ih =>
    intro j σ' x3 x4 o5 e4 e3 hj hf hsm
    have eni' : σ' 0 0 7 = nI ni := by rw [hsm 0 0 7 (by decide) (by decide) (by decide) (by decide)]; exact eni
    refine z_iload C dX5_easiestShift_5 rfl ?_
    refine z_aload_n C dX5_easiestShift_7 rfl ?_
    refine g_0_7 C wd147 dX5_easiestShift_8 ?_
    refine z_icmp_ge C 50 dX5_easiestShift_11 (by decide) (fun c_11 => ?_) (fun c_11 => ?_)
    · have hjn : ni ≤ j := by rw [eni', e4, nI_leI (by omega) (by omega)] at c_11; exact c_11
      refine z_iload_n C dX5_easiestShift_50 rfl ?_
      refine z_iret C dX5_easiestShift_51 ?_
      exact ⟨hsm, by rw [e3, show j = ni by omega]⟩
    · have hjn : j < ni := by rw [eni', e4, nI_leI (by omega) (by omega)] at c_11; omega
      refine z_aload_n C dX5_easiestShift_14 rfl ?_
      refine z_iload_n C dX5_easiestShift_15 rfl ?_
      refine z_iload_n C dX5_easiestShift_16 rfl ?_
      refine z_iload C dX5_easiestShift_17 rfl ?_
      refine z_cvi C (As := [_, _, _]) (c_X5_learnableShift (hsm.inv hI) hw hw5 (by rw [hsm 0 0 6 (by decide) (by decide) (by decide) (by decide)]; exact hr2) (by rw [eni', e4]; exact ok_inst hjn hni)) okX5_learnableShift wd289 rc_0 (rok (by decide) (by decide)) ⟨Nat.le_of_ble_eq_true rfl, Nat.le_of_ble_eq_true rfl⟩ rfl (Nat.le_of_ble_eq_true rfl) dX5_easiestShift_19 ?_
      rintro r19 σ2 ⟨hsm2, e19⟩
      rw [hsm.els, e4, ix_nI (by omega)] at e19
      refine z_istore C dX5_easiestShift_22 (by decide) ?_
      dsimp only [List.set]
      refine z_iload C dX5_easiestShift_24 rfl ?_
      refine z_iconst C (v := (-1)) dX5_easiestShift_26 (by decide) ?_
      refine z_icmp_eq C 44 dX5_easiestShift_27 (by decide) (fun c_27 => ?_) (fun c_27 => ?_)
      · refine z_iinc C (v := 1) dX5_easiestShift_44 rfl (by decide) (by decide) ?_
        dsimp only [List.set]
        refine z_goto C 5 dX5_easiestShift_47 (by decide) ?_
        exact ih (j + 1) _ _ _ _ (by rw [e4]; exact nI_1 j) (by rw [esV_s, ← e19, if_pos c_27]; exact e3) (by omega) (by omega) (hsm.trans hsm2)
      · refine z_iload_n C dX5_easiestShift_30 rfl ?_
        refine z_iconst C (v := (-1)) dX5_easiestShift_31 (by decide) ?_
        refine z_icmp_eq C 41 dX5_easiestShift_32 (by decide) (fun c_32 => ?_) (fun c_32 => ?_)
        · refine z_iload C dX5_easiestShift_41 rfl ?_
          refine z_istore_n C dX5_easiestShift_43 (by decide) ?_
          dsimp only [List.set]
          refine z_iinc C (v := 1) dX5_easiestShift_44 rfl (by decide) (by decide) ?_
          dsimp only [List.set]
          refine z_goto C 5 dX5_easiestShift_47 (by decide) ?_
          exact ih (j + 1) _ _ _ _ (by rw [e4]; exact nI_1 j) (by rw [esV_s, ← e19, if_neg c_27, ← e3, if_pos c_32]) (by omega) (by omega) (hsm.trans hsm2)
        · refine z_iload C dX5_easiestShift_35 rfl ?_
          refine z_iload_n C dX5_easiestShift_37 rfl ?_
          refine z_icmp_ge C 44 dX5_easiestShift_38 (by decide) (fun c_38 => ?_) (fun c_38 => ?_)
          · refine z_iinc C (v := 1) dX5_easiestShift_44 rfl (by decide) (by decide) ?_
            dsimp only [List.set]
            refine z_goto C 5 dX5_easiestShift_47 (by decide) ?_
            exact ih (j + 1) _ _ _ _ (by rw [e4]; exact nI_1 j) (by rw [esV_s, ← e19, if_neg c_27, ← e3, if_neg c_32, if_pos c_38]) (by omega) (by omega) (hsm.trans hsm2)
          · refine z_iload C dX5_easiestShift_41 rfl ?_
            refine z_istore_n C dX5_easiestShift_43 (by decide) ?_
            dsimp only [List.set]
            refine z_iinc C (v := 1) dX5_easiestShift_44 rfl (by decide) (by decide) ?_
            dsimp only [List.set]
            refine z_goto C 5 dX5_easiestShift_47 (by decide) ?_
            exact ih (j + 1) _ _ _ _ (by rw [e4]; exact nI_1 j) (by rw [esV_s, ← e19, if_neg c_27, ← e3, if_neg c_32, if_neg c_38]) (by omega) (by omega) (hsm.trans hsm2)
end
set_option maxRecDepth 100000 in
set_option maxHeartbeats 4000000 in
theorem c_X5_easiestShift {l : Launch} {D : va_G} {ad : Nat → Nat → Nat} {cy : Nat → ClassId} {A : Nat → Prop} {sa : Nat → Nat} {σ : St} {w x : Int32} {ni : Nat} (hI : Inv σ) (hw : w = nI (ix w)) (hw5 : ix w < 5) (hr2 : ¬ bad x (σ 0 0 6)) (eni : σ 0 0 7 = nI ni) (hni : ni ≤ 8) : MI l D ad cy A sa yX5_easiestShift cX5_easiestShift 6 (some .int) 7 σ [.ref (ad 0 0), .int w, .int x] (fun r σ' => SameC σ σ' ∧ r = esV σ w (ix x) ni) := by
  refine MI.mk "FretSchool" (by decide) rfl (Nat.le_of_ble_eq_true rfl) rfl ?_
  intro p e s m args below meth c C
  change Z _ _ _ _ _ _ _ _ _ _ _ _ _ _ _ _ _ _ _ [some (.ref (ad 0 0)), some (.int w), some (.int x), none, none, none] 0 []
  refine z_iconst C (v := (-1)) dX5_easiestShift_0 (by decide) ?_
  refine z_istore_n C dX5_easiestShift_1 (by decide) ?_
  dsimp only [List.set]
  refine z_iconst C (v := 0) dX5_easiestShift_2 (by decide) ?_
  refine z_istore C dX5_easiestShift_3 (by decide) ?_
  dsimp only [List.set]
  exact lp_X5_easiestShift C hI hw hw5 hr2 eni hni (ni + 1) 0 _ _ _ _ nI_0.symm rfl (by omega) (by omega) SameC.rf
noncomputable def nsV (σ : St) (w : Int32) (ni j : Nat) : Int32 := if σ 15 (ix w) 1 &&& (1 <<< (nI j &&& 31)) = 0 then esV σ w j ni else -1
noncomputable def nxV (σ : St) (w : Int32) (ni : Nat) : Nat → Int32 × Int32
  | 0 => (-1, 0)
  | j + 1 => if nsV σ w ni j = -1 then nxV σ w ni j else if (nxV σ w ni j).1 = -1 then (nI j, nsV σ w ni j) else if (nxV σ w ni j).2 ≤ nsV σ w ni j then nxV σ w ni j else (nI j, nsV σ w ni j)
theorem nxV_s {σ : St} {w : Int32} {ni j : Nat} : nxV σ w ni (j + 1) = if nsV σ w ni j = -1 then nxV σ w ni j else if (nxV σ w ni j).1 = -1 then (nI j, nsV σ w ni j) else if (nxV σ w ni j).2 ≤ nsV σ w ni j then nxV σ w ni j else (nI j, nsV σ w ni j) := rfl
section
variable {p : Program} {l : Launch} {e : Env} {R : Room} {s : State} {m : MethodId} {args : Array Value} {below : List Frame} {meth : Method} {c : Code} {D : va_G} {ad : Nat → Nat → Nat} {cy : Nat → ClassId} {A : Nat → Prop} {sa : Nat → Nat} {cells slots : Nat} {σ : St}
set_option maxRecDepth 100000 in
set_option maxHeartbeats 4000000 in
theorem lp_X5_next (C : Cx p l s m args meth c cX5_next "FretSchool" 6 (some .int) D ad cy A sa) {w : Int32} {ni np : Nat} (hI : Inv σ) (hr1 : ¬ outR w 0 4) (eni : σ 0 0 7 = nI ni) (hni : ni ≤ 8) (enp : σ 0 0 6 = nI np) (hnp : np ≤ 8) (hex : ∀ x ∈ c.exceptionTable.toList, False) : ∀ (f j : Nat) (σ' : St) (x2 x3 x4 : Int32) (o5 : Option Value), x4 = nI j → x2 = (nxV σ w ni j).1 → x3 = (nxV σ w ni j).2 → j ≤ np → np < j + f → SameC σ σ' → Z p l e (rmD 8 1) s m args below meth c D ad cy A 6 (0 + 1) (0 + 6 * 1) (vx_MQ below (va_Qi (fun r σ' => K_pupil w = 0 ∧ SameC σ σ' ∧ r = (nxV σ w (ix (σ 0 0 7)) (ix (σ 0 0 6))).1) (Bw D ad cy) A) (XW D ad cy A (fun E u => σ = u ∧ pxK [IAE] (K_pupil w) E)) args s 1 (6 * 1) A) σ' [some (.ref (ad 0 0)), some (.int w), some (.int x2), some (.int x3), some (.int x4), o5] 11 [] := by
  obtain ⟨ew, hw4⟩ := nout (n := 4) (by decide) hr1
  have hw5 : ix w < 5 := by omega
  intro f
  induction f with
  | zero => intro j σ' x2 x3 x4 o5 _ _ _ _ h; exact absurd h (by omega)
  | succ f ih =>
    intro j σ' x2 x3 x4 o5 e4 e2 e3 hj hf hsm
    have enp' : σ' 0 0 6 = nI np := by rw [hsm 0 0 6 (by decide) (by decide) (by decide) (by decide)]; exact enp
    have eni' : σ' 0 0 7 = nI ni := by rw [hsm 0 0 7 (by decide) (by decide) (by decide) (by decide)]; exact eni
    refine z_iload C dX5_next_11 rfl ?_
    refine z_aload_n C dX5_next_13 rfl ?_
    refine g_0_6 C wd146 dX5_next_14 ?_
    refine z_icmp_ge C 76 dX5_next_17 (by decide) (fun c_17 => ?_) (fun c_17 => ?_)
    · have hjn : np ≤ j := by rw [enp', e4, nI_leI (by omega) (by omega)] at c_17; exact c_17
      refine z_iload_n C dX5_next_76 rfl ?_
      refine y_ret (by decide) (by decide) ?_
      refine z_iret C dX5_next_77 ?_
      refine ⟨by unfold K_pupil; rw [if_neg hr1], hsm, ?_⟩
      rw [e2, eni, enp, ix_nI (by omega), ix_nI (by omega), show j = np by omega]
    · have hjn : j < np := by rw [enp', e4, nI_leI (by omega) (by omega)] at c_17; omega
      refine z_aload_n C dX5_next_20 rfl ?_
      refine g_0_2 C wd142 dX5_next_21 ?_
      refine z_iload_n C dX5_next_24 rfl ?_
      refine a_3 C ew hw5 dX5_next_25 ?_
      refine z_iload C dX5_next_26 rfl ?_
      refine z_cvi C (As := [_]) (c_X4_knows hw5) okX4_knows wd281 (rc_15 hw5) (rok (by decide) (by decide)) ⟨Nat.le_of_ble_eq_true rfl, Nat.le_of_ble_eq_true rfl⟩ rfl (Nat.le_of_ble_eq_true rfl) dX5_next_28 ?_
      rintro r28 _ ⟨e28, rfl⟩
      refine z_if_eq C 38 dX5_next_31 (by decide) (fun c_31 => ?_) (fun c_31 => ?_)
      · have hk : σ 15 (ix w) 1 &&& (1 <<< (nI j &&& 31)) = 0 := Classical.byContradiction fun q => by
          rw [hsm 15 (ix w) 1 (by decide) (by decide) (by decide) (by decide), e4] at e28
          rw [e28, if_neg q] at c_31
          exact absurd c_31 (by decide)
        refine z_aload_n C dX5_next_38 rfl ?_
        refine z_iload_n C dX5_next_39 rfl ?_
        refine z_iload C dX5_next_40 rfl ?_
        refine z_cvi C (As := [_, _]) (c_X5_easiestShift (hsm.inv hI) ew hw5 (by rw [enp', e4]; exact ok_inst hjn hnp) eni' hni) okX5_easiestShift wd285 rc_0 (rok (by decide) (by decide)) ⟨Nat.le_of_ble_eq_true rfl, Nat.le_of_ble_eq_true rfl⟩ rfl (Nat.le_of_ble_eq_true rfl) dX5_next_42 ?_
        rintro r42 σ2 ⟨hsm2, e42⟩
        have e45 : r42 = nsV σ w ni j := by
          rw [e42, hsm.ees, e4, ix_nI (by omega)]
          exact (if_pos hk).symm
        refine z_istore C dX5_next_45 (by decide) ?_
        dsimp only [List.set]
        refine z_iload C dX5_next_47 rfl ?_
        refine z_iconst C (v := (-1)) dX5_next_49 (by decide) ?_
        refine z_icmp_eq C 70 dX5_next_50 (by decide) (fun c_50 => ?_) (fun c_50 => ?_)
        · refine z_iinc C (v := 1) dX5_next_70 rfl (by decide) (by decide) ?_
          dsimp only [List.set]
          refine z_goto C 11 dX5_next_73 (by decide) ?_
          exact ih (j + 1) _ _ _ _ _ (by rw [e4]; exact nI_1 j) (by rw [nxV_s, ← e45, if_pos c_50]; exact e2) (by rw [nxV_s, ← e45, if_pos c_50]; exact e3) (by omega) (by omega) (hsm.trans hsm2)
        · refine z_iload_n C dX5_next_53 rfl ?_
          refine z_iconst C (v := (-1)) dX5_next_54 (by decide) ?_
          refine z_icmp_eq C 64 dX5_next_55 (by decide) (fun c_55 => ?_) (fun c_55 => ?_)
          · refine z_iload C dX5_next_64 rfl ?_
            refine z_istore_n C dX5_next_66 (by decide) ?_
            dsimp only [List.set]
            refine z_iload C dX5_next_67 rfl ?_
            refine z_istore_n C dX5_next_69 (by decide) ?_
            dsimp only [List.set]
            refine z_iinc C (v := 1) dX5_next_70 rfl (by decide) (by decide) ?_
            dsimp only [List.set]
            refine z_goto C 11 dX5_next_73 (by decide) ?_
            exact ih (j + 1) _ _ _ _ _ (by rw [e4]; exact nI_1 j) (by rw [nxV_s, ← e45, if_neg c_50, ← e2, if_pos c_55]; exact e4) (by rw [nxV_s, ← e45, if_neg c_50, ← e2, if_pos c_55]) (by omega) (by omega) (hsm.trans hsm2)
          · refine z_iload C dX5_next_58 rfl ?_
            refine z_iload_n C dX5_next_60 rfl ?_
            refine z_icmp_ge C 70 dX5_next_61 (by decide) (fun c_61 => ?_) (fun c_61 => ?_)
            · refine z_iinc C (v := 1) dX5_next_70 rfl (by decide) (by decide) ?_
              dsimp only [List.set]
              refine z_goto C 11 dX5_next_73 (by decide) ?_
              exact ih (j + 1) _ _ _ _ _ (by rw [e4]; exact nI_1 j) (by rw [nxV_s, ← e45, if_neg c_50, ← e2, if_neg c_55, ← e3, if_pos c_61]; exact e2) (by rw [nxV_s, ← e45, if_neg c_50, ← e2, if_neg c_55, ← e3, if_pos c_61]; exact e3) (by omega) (by omega) (hsm.trans hsm2)
            · refine z_iload C dX5_next_64 rfl ?_
              refine z_istore_n C dX5_next_66 (by decide) ?_
              dsimp only [List.set]
              refine z_iload C dX5_next_67 rfl ?_
              refine z_istore_n C dX5_next_69 (by decide) ?_
              dsimp only [List.set]
              refine z_iinc C (v := 1) dX5_next_70 rfl (by decide) (by decide) ?_
              dsimp only [List.set]
              refine z_goto C 11 dX5_next_73 (by decide) ?_
              exact ih (j + 1) _ _ _ _ _ (by rw [e4]; exact nI_1 j) (by rw [nxV_s, ← e45, if_neg c_50, ← e2, if_neg c_55, ← e3, if_neg c_61]; exact e4) (by rw [nxV_s, ← e45, if_neg c_50, ← e2, if_neg c_55, ← e3, if_neg c_61]) (by omega) (by omega) (hsm.trans hsm2)
      · have hk : ¬ σ 15 (ix w) 1 &&& (1 <<< (nI j &&& 31)) = 0 := fun q => by
          rw [hsm 15 (ix w) 1 (by decide) (by decide) (by decide) (by decide), e4] at e28
          rw [e28, if_pos q] at c_31
          exact c_31 rfl
        refine z_iconst C (v := (-1)) dX5_next_34 (by decide) ?_
        refine z_goto C 45 dX5_next_35 (by decide) ?_
        refine z_istore C dX5_next_45 (by decide) ?_
        dsimp only [List.set]
        refine z_iload C dX5_next_47 rfl ?_
        refine z_iconst C (v := (-1)) dX5_next_49 (by decide) ?_
        refine z_icmp_eq C 70 dX5_next_50 (by decide) (fun c_50 => ?_) (fun c_50 => ?_)
        · refine z_iinc C (v := 1) dX5_next_70 rfl (by decide) (by decide) ?_
          dsimp only [List.set]
          refine z_goto C 11 dX5_next_73 (by decide) ?_
          exact ih (j + 1) _ _ _ _ _ (by rw [e4]; exact nI_1 j) (by rw [nxV_s, if_pos (show nsV σ w ni j = -1 from if_neg hk)]; exact e2) (by rw [nxV_s, if_pos (show nsV σ w ni j = -1 from if_neg hk)]; exact e3) (by omega) (by omega) (hsm)
        · exact absurd rfl c_50
end
set_option maxRecDepth 100000 in
set_option maxHeartbeats 4000000 in
theorem c_X5_next {l : Launch} {D : va_G} {ad : Nat → Nat → Nat} {cy : Nat → ClassId} {A : Nat → Prop} {sa : Nat → Nat} {σ : St} {w : Int32} (hI : Inv σ) : XI l D ad cy A sa yX5_next cX5_next 6 (some .int) 8 1 σ [.ref (ad 0 0), .int w] (fun r σ' => K_pupil w = 0 ∧ SameC σ σ' ∧ r = (nxV σ w (ix (σ 0 0 7)) (ix (σ 0 0 6))).1) (fun E u => σ = u ∧ pxK [IAE] (K_pupil w) E) := by
  refine XI.mk "FretSchool" (by decide) rfl (Nat.le_of_ble_eq_true rfl) rfl ?_
  intro p e s m args below meth c C hex
  change Z _ _ _ _ _ _ _ _ _ _ _ _ _ _ _ _ _ _ _ [some (.ref (ad 0 0)), some (.int w), none, none, none, none] 0 []
  obtain ⟨np, hnp, enp⟩ := hI.1
  obtain ⟨ni, hni, eni⟩ := hI.2.1
  refine z_iload_n C dX5_next_0 rfl ?_
  refine y_csv C (As := [_]) (c_X5_needPupil) okX5_needPupil wd192 (rok (by decide) (by decide)) ⟨Nat.le_of_ble_eq_true rfl, Nat.le_of_ble_eq_true rfl⟩ rfl (Nat.le_of_ble_eq_true rfl) dX5_next_1 (x_on C hex (by decide) (by decide) (fun E u h => ⟨h.1, by unfold K_pupil; rw [if_pos h.2.2]; exact ⟨by decide, congrArg some h.2.1.symm⟩⟩)) ?_
  rintro _ ⟨rfl, hr1⟩
  refine z_iconst C (v := (-1)) dX5_next_4 (by decide) ?_
  refine z_istore_n C dX5_next_5 (by decide) ?_
  dsimp only [List.set]
  refine z_iconst C (v := 0) dX5_next_6 (by decide) ?_
  refine z_istore_n C dX5_next_7 (by decide) ?_
  dsimp only [List.set]
  refine z_iconst C (v := 0) dX5_next_8 (by decide) ?_
  refine z_istore C dX5_next_9 (by decide) ?_
  dsimp only [List.set]
  exact lp_X5_next C hI hr1 eni hni enp hnp hex (np + 1) 0 _ _ _ _ _ nI_0.symm rfl rfl (by omega) (by omega) SameC.rf
def knowsP (σ : St) (w p : Int32) : Prop := ¬ σ 15 (ix w) 1 &&& (1 <<< (p &&& 31)) = 0
noncomputable def K_learn (σ : St) (w p q : Int32) : Nat := by classical exact if bad p (σ 0 0 6) ∨ bad q (σ 0 0 7) then 1 else if outR w 0 4 then 2 else if knowsP σ w p ∨ lsV σ w (ix p) (ix q) = -1 then 3 else 0
noncomputable def lvL (σ : St) (w p q : Int32) : Int32 := if lsV σ w (ix p) (ix q) = σ 15 (ix w) 0 then σ 15 (ix w) 0 + 1 else σ 15 (ix w) 0
noncomputable def learnS (σ σ2 : St) (w p q : Int32) : St := up (up σ2 15 (ix w) 1 (σ 15 (ix w) 1 ||| (1 <<< (p &&& 31)))) 15 (ix w) 0 (lvL σ w p q)
set_option maxRecDepth 100000 in
set_option maxHeartbeats 4000000 in
theorem c_X5_learn {l : Launch} {D : va_G} {ad : Nat → Nat → Nat} {cy : Nat → ClassId} {A : Nat → Prop} {sa : Nat → Nat} {σ : St} {x y z : Int32} (hI : Inv σ) : XI l D ad cy A sa yX5_learn cX5_learn 6 (some .int) 7 4 σ [.ref (ad 0 0), .int x, .int y, .int z] (fun r σ' => K_learn σ x y z = 0 ∧ r = lvL σ x y z ∧ ∃ σ2, SameC σ σ2 ∧ learnS σ σ2 x y z = σ') (fun E u => SameC σ u ∧ pxK [IOOBE, IAE, ISE] (K_learn σ x y z) E) := by
  refine XI.mk "FretSchool" (by decide) rfl (Nat.le_of_ble_eq_true rfl) rfl ?_
  intro p e s m args below meth c C hex
  change Z _ _ _ _ _ _ _ _ _ _ _ _ _ _ _ _ _ _ _ [some (.ref (ad 0 0)), some (.int x), some (.int y), some (.int z), none, none] 0 []
  refine z_aload_n C dX5_learn_0 rfl ?_
  refine z_iload_n C dX5_learn_1 rfl ?_
  refine y_cvv C (As := [_]) (c_X5_needPiece) okX5_needPiece wd346 rc_0 (rok (by decide) (by decide)) ⟨Nat.le_of_ble_eq_true rfl, Nat.le_of_ble_eq_true rfl⟩ rfl (Nat.le_of_ble_eq_true rfl) dX5_learn_2 (x_on C hex (by decide) (by decide) (fun E u h => ⟨by rw [← h.1]; exact SameC.rf, by unfold K_learn; rw [if_pos (Or.inl h.2.2)]; exact ⟨by decide, congrArg some h.2.1.symm⟩⟩)) ?_
  rintro _ ⟨rfl, hr2⟩
  refine z_aload_n C dX5_learn_5 rfl ?_
  refine z_iload_n C dX5_learn_6 rfl ?_
  refine y_cvv C (As := [_]) (c_X5_needInstrument) okX5_needInstrument wd385 rc_0 (rok (by decide) (by decide)) ⟨Nat.le_of_ble_eq_true rfl, Nat.le_of_ble_eq_true rfl⟩ rfl (Nat.le_of_ble_eq_true rfl) dX5_learn_7 (x_on C hex (by decide) (by decide) (fun E u h => ⟨by rw [← h.1]; exact SameC.rf, by unfold K_learn; rw [if_pos (Or.inr h.2.2)]; exact ⟨by decide, congrArg some h.2.1.symm⟩⟩)) ?_
  rintro _ ⟨rfl, hr7⟩
  refine z_iload_n C dX5_learn_10 rfl ?_
  refine y_csv C (As := [_]) (c_X5_needPupil) okX5_needPupil wd192 (rok (by decide) (by decide)) ⟨Nat.le_of_ble_eq_true rfl, Nat.le_of_ble_eq_true rfl⟩ rfl (Nat.le_of_ble_eq_true rfl) dX5_learn_11 (x_on C hex (by decide) (by decide) (fun E u h => ⟨by rw [← h.1]; exact SameC.rf, by unfold K_learn; rw [if_neg (fun q => q.elim hr2 hr7), if_pos h.2.2]; exact ⟨by decide, congrArg some h.2.1.symm⟩⟩)) ?_
  rintro _ ⟨rfl, hr11⟩
  obtain ⟨ew, hw4⟩ := nout (n := 4) (by decide) hr11
  have hw5 : ix x < 5 := by omega
  refine z_aload_n C dX5_learn_14 rfl ?_
  refine g_0_2 C wd142 dX5_learn_15 ?_
  refine z_iload_n C dX5_learn_18 rfl ?_
  refine a_3 C ew hw5 dX5_learn_19 ?_
  refine z_astore C dX5_learn_20 (by decide) ?_
  dsimp only [List.set]
  refine z_aload C dX5_learn_22 rfl ?_
  refine z_iload_n C dX5_learn_24 rfl ?_
  refine z_cvi C (As := [_]) (c_X4_knows hw5) okX4_knows wd281 (rc_15 hw5) (rok (by decide) (by decide)) ⟨Nat.le_of_ble_eq_true rfl, Nat.le_of_ble_eq_true rfl⟩ rfl (Nat.le_of_ble_eq_true rfl) dX5_learn_25 ?_
  rintro r25 _ ⟨e25, rfl⟩
  refine z_if_eq C 41 dX5_learn_28 (by decide) (fun c_28 => ?_) (fun c_28 => ?_)
  · have hk : ¬ knowsP σ x y := fun q => by
      rw [e25, if_neg q] at c_28
      exact absurd c_28 (by decide)
    refine z_aload_n C dX5_learn_41 rfl ?_
    refine z_iload_n C dX5_learn_42 rfl ?_
    refine z_iload_n C dX5_learn_43 rfl ?_
    refine z_iload_n C dX5_learn_44 rfl ?_
    refine z_cvi C (As := [_, _, _]) (c_X5_learnableShift hI ew hw5 hr2 hr7) okX5_learnableShift wd289 rc_0 (rok (by decide) (by decide)) ⟨Nat.le_of_ble_eq_true rfl, Nat.le_of_ble_eq_true rfl⟩ rfl (Nat.le_of_ble_eq_true rfl) dX5_learn_45 ?_
    rintro r45 σ2 ⟨hsm, e45⟩
    refine z_istore C dX5_learn_48 (by decide) ?_
    dsimp only [List.set]
    refine z_iload C dX5_learn_50 rfl ?_
    refine z_iconst C (v := (-1)) dX5_learn_52 (by decide) ?_
    refine z_icmp_ne C 66 dX5_learn_53 (by decide) (fun c_53 => ?_) (fun c_53 => ?_)
    · refine z_aload C dX5_learn_66 rfl ?_
      refine z_iload_n C dX5_learn_68 rfl ?_
      refine z_iload C dX5_learn_69 rfl ?_
      refine z_cvv C (As := [_, _]) (c_X4_takeIn hw5) okX4_takeIn wd591 (rc_15 hw5) (rok (by decide) (by decide)) ⟨Nat.le_of_ble_eq_true rfl, Nat.le_of_ble_eq_true rfl⟩ rfl (Nat.le_of_ble_eq_true rfl) dX5_learn_71 ?_
      rintro _ rfl
      refine z_aload C dX5_learn_74 rfl ?_
      refine g_15_0 hw5 C wd81 dX5_learn_76 ?_
      refine y_ret (by decide) (by decide) ?_
      refine z_iret C dX5_learn_79 ?_
      have e1 := hsm 15 (ix x) 1 (by decide) (by decide) (by decide) (by decide)
      have e0 := hsm 15 (ix x) 0 (by decide) (by decide) (by decide) (by decide)
      refine ⟨by unfold K_learn; rw [if_neg (fun q => q.elim hr2 hr7), if_neg hr11, if_neg (fun q => q.elim hk (fun q => c_53 (e45.trans q)))], ?_, σ2, hsm, ?_⟩
      · rw [up_app, if_pos ⟨rfl, rfl, rfl⟩, e0, e45]
        rfl
      · unfold learnS lvL
        rw [e1, e0, e45]
    · refine y_ise C hex (tx := "the pupil cannot learn the piece there") (List.mem_of_getElem? (i := 9) rfl) dX5_learn_56 dX5_learn_59 dX5_learn_60 dX5_learn_62 dX5_learn_65 ⟨Nat.le_of_ble_eq_true rfl, Nat.le_of_ble_eq_true rfl⟩ (by decide) (by decide) ?_
      exact ⟨hsm, by unfold K_learn; rw [if_neg (fun q => q.elim hr2 hr7), if_neg hr11, if_pos (Or.inr (e45.symm.trans c_53))]; exact ⟨by decide, rfl⟩⟩
  · have hk : knowsP σ x y := fun q => by
      rw [e25, if_pos q] at c_28
      exact c_28 rfl
    refine y_ise C hex (tx := "the pupil knows the piece") (List.mem_of_getElem? (i := 8) rfl) dX5_learn_31 dX5_learn_34 dX5_learn_35 dX5_learn_37 dX5_learn_40 ⟨Nat.le_of_ble_eq_true rfl, Nat.le_of_ble_eq_true rfl⟩ (by decide) (by decide) ?_
    exact ⟨SameC.rf, by unfold K_learn; rw [if_neg (fun q => q.elim hr2 hr7), if_neg hr11, if_pos (Or.inl hk)]; exact ⟨by decide, rfl⟩⟩
