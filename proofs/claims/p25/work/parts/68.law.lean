/-! ===== the law ===== -/
theorem room_c : 500000 ≤ room_1.cells := Nat.le_of_ble_eq_true rfl
theorem room_s : 5000000 ≤ room_1.slots := Nat.le_of_ble_eq_true rfl
set_option maxRecDepth 100000 in
set_option maxHeartbeats 4000000 in
theorem law_loop2 {p : Program} {l : Launch} {e : Env} {s : State} {m : MethodId} {args : Array Value} {below : List Frame} {meth : Method} {c : Code} {D : va_G} {ad : Nat → Nat → Nat} {cy : Nat → ClassId} {A : Nat → Prop} {sa : Nat → Nat} {Q : State → Prop} (C : Cx p l s m args meth c cL_law "FretSchoolLaw" 10 (some .boolean) D ad cy A sa) (kend : ∀ (σ : St) (L : List (Option Value)) (cells slots : Nat), cells ≤ room_1.cells → slots ≤ room_1.slots → Z p l e room_1 s m args below meth c D ad cy A 10 cells slots Q σ L 202 [.int 1]) {b : Nat} (h0 : ad 99 0 = 0) {T np ni : Nat} (hnp : np ≤ 8) (hni : ni ≤ 8) : ∀ (f q : Nat) (σ : St) {cells slots : Nat}, q ≤ ni → ni < q + f → LInv T σ → σ 0 0 6 = nI np → σ 0 0 7 = nI ni → cells + 300 * f ≤ 400000 → slots + 1800 * f ≤ 4000000 → Z p l e room_1 s m args below meth c D ad cy A 10 (cells) (slots) Q (σ) [some (.ref b), some (.ref (ad 0 0)), some (.ref (ad 17 0)), some (.ref (ad 18 0)), some (.ref (ad 19 0)), some (.ref (ad 20 0)), some (.ref (ad 21 0)), some (.ref (ad 22 0)), some (.int 1), some (.int (nI q))] 146 [] := by
  intro f
  induction f with
  | zero => intro q σ cells slots _ h; exact absurd h (by omega)
  | succ f ih =>
    intro q σ cells slots hq hfu hI enp eni hc1 hc2
    refine z_iload C dL_law_146 rfl ?_
    refine z_aload C dL_law_148 rfl ?_
    refine z_iconst C (v := 1) dL_law_150 (by decide) ?_
    refine a_22 C (j := 1) (by decide) (by decide) dL_law_151 ?_
    rw [hI.2.1.2.1, eni]
    refine z_icmp_ge C 200 dL_law_152 (by decide) (fun c_152 => ?_) (fun c_152 => ?_)
    · skip
      refine z_iload C dL_law_200 rfl ?_
      exact kend σ _ _ _ (Nat.le_trans (m := 500000) (by omega) room_c) (Nat.le_trans (m := 5000000) (by omega) room_s)
    · have hqn : q < ni := by rw [nI_leI (by omega) (by omega)] at c_152; omega
      refine z_iload C dL_law_155 rfl ?_
      refine z_if_eq C 200 dL_law_157 (by decide) (fun c_157 => ?_) (fun c_157 => ?_)
      · exact absurd c_157 (by decide)
      refine z_aload C dL_law_160 rfl ?_
      refine z_iconst C (v := 0) dL_law_162 (by decide) ?_
      refine a_22 C (j := 0) (by decide) (by decide) dL_law_163 ?_
      rw [hI.2.1.1, enp]
      refine z_if_eq C 187 dL_law_164 (by decide) (fun c_164 => ?_) (fun c_164 => ?_)
      · skip
        refine z_iconst C (v := 1) dL_law_187 (by decide) ?_
        refine z_goto C 192 dL_law_188 (by decide) ?_
        refine z_istore C dL_law_192 (by decide) ?_
        dsimp only [List.set]
        refine z_iinc C (v := 1) dL_law_194 rfl (by decide) (by decide) ?_
        dsimp only [List.set]
        refine z_goto C 146 dL_law_197 (by decide) ?_
        rw [nI_1]
        exact ih (q + 1) σ (by omega) (by omega) hI enp eni (by omega) (by omega)
      · have hnp0 : 0 < np := by rw [nI_ne0' (by omega)] at c_164; omega
        refine z_aload_n C dL_law_167 rfl ?_
        refine z_aload_n C dL_law_168 rfl ?_
        refine z_aload_n C dL_law_169 rfl ?_
        refine z_aload C dL_law_170 rfl ?_
        refine z_iload C dL_law_172 rfl ?_
        refine z_aload C dL_law_174 rfl ?_
        refine z_iconst C (v := 0) dL_law_176 (by decide) ?_
        refine a_22 C (j := 0) (by decide) (by decide) dL_law_177 ?_
        rw [hI.2.1.1, enp]
        refine z_irem C (nI_ne0 (by omega) (by omega)) dL_law_178 ?_
        rw [pk_rem (a := q) (d := np) (by omega) (by omega) (by omega)]
        refine z_iload C dL_law_179 rfl ?_
        refine z_csk C (As := [_, _, _, _, _, _]) (c_L_fingers hI enp hnp eni hni (show q % np < np from Nat.mod_lt _ (by omega)) hqn h0) okL_fingers wd331 ⟨Nat.le_of_ble_eq_true rfl, Nat.le_of_ble_eq_true rfl⟩ ⟨Nat.le_trans (m := 500000) (by omega) room_c, Nat.le_trans (m := 5000000) (by omega) room_s⟩ rfl (Nat.le_of_ble_eq_true rfl) dL_law_181 ?_
        rintro _ τ ⟨rfl, hs⟩
        refine z_if_eq C 191 dL_law_184 (by decide) (fun c_184 => ?_) (fun c_184 => ?_)
        · exact absurd c_184 (by decide)
        refine z_iconst C (v := 1) dL_law_187 (by decide) ?_
        refine z_goto C 192 dL_law_188 (by decide) ?_
        refine z_istore C dL_law_192 (by decide) ?_
        dsimp only [List.set]
        refine z_iinc C (v := 1) dL_law_194 rfl (by decide) (by decide) ?_
        dsimp only [List.set]
        refine z_goto C 146 dL_law_197 (by decide) ?_
        rw [nI_1]
        exact ih (q + 1) τ (by omega) (by omega) (hI.same hs) ((hs.k 0 0 6 (by decide)).trans enp) ((hs.k 0 0 7 (by decide)).trans eni) (by omega) (by omega)
set_option maxRecDepth 100000 in
set_option maxHeartbeats 4000000 in
theorem law_loop1 {p : Program} {l : Launch} {e : Env} {s : State} {m : MethodId} {args : Array Value} {below : List Frame} {meth : Method} {c : Code} {D : va_G} {ad : Nat → Nat → Nat} {cy : Nat → ClassId} {A : Nat → Prop} {sa : Nat → Nat} {Q : State → Prop} (C : Cx p l s m args meth c cL_law "FretSchoolLaw" 10 (some .boolean) D ad cy A sa) (kend : ∀ (σ : St) (L : List (Option Value)) (cells slots : Nat), cells ≤ room_1.cells → slots ≤ room_1.slots → Z p l e room_1 s m args below meth c D ad cy A 10 cells slots Q σ L 202 [.int 1]) {b L : Nat} {xs : Nat → Int32} (hX : va_X b L xs s s.heap) (hbl : b < s.heap.size) (hbA : ¬ A b) (hL : L ≤ 260) (h0 : ad 99 0 = 0) : ∀ (n k : Nat), k + n = 160 → ∀ (σ : St) {cells slots : Nat}, LInv (20 * k) σ → cells + 450 * n ≤ 300000 → slots + 2700 * n ≤ 3000000 → Z p l e room_1 s m args below meth c D ad cy A 10 (cells) (slots) Q (σ) [some (.ref b), some (.ref (ad 0 0)), some (.ref (ad 17 0)), some (.ref (ad 18 0)), some (.ref (ad 19 0)), some (.ref (ad 20 0)), some (.ref (ad 21 0)), some (.ref (ad 22 0)), some (.int 1), some (.int (nI k))] 90 [] := by
  intro n
  induction n with
  | zero =>
    intro k hk σ cells slots hI hc1 hc2
    refine z_iload C dL_law_90 rfl ?_
    refine z_sipush C (v := 160) dL_law_92 (by decide) ?_
    refine z_icmp_ge C 143 dL_law_95 (by decide) (fun c_95 => ?_) (fun c_95 => ?_)
    · obtain ⟨np, hnp, enp⟩ := hI.1.1
      obtain ⟨ni, hni, eni⟩ := hI.1.2.1
      refine z_iconst C (v := 0) dL_law_143 (by decide) ?_
      refine z_istore C dL_law_144 (by decide) ?_
      dsimp only [List.set]
      exact law_loop2 C kend h0 hnp hni (ni + 1) 0 σ (by omega) (by omega) hI enp eni (by omega) (by omega)
    · exact absurd (nI_le (a := 160) (b := k) (by omega) (by omega)) c_95
  | succ n ih =>
    intro k hk σ cells slots hI hc1 hc2
    refine z_iload C dL_law_90 rfl ?_
    refine z_sipush C (v := 160) dL_law_92 (by decide) ?_
    refine z_icmp_ge C 143 dL_law_95 (by decide) (fun c_95 => ?_) (fun c_95 => ?_)
    · exact absurd c_95 (nI_ge (a := k) (b := 160) (by omega) (by omega))
    refine z_iload C dL_law_98 rfl ?_
    refine z_if_eq C 143 dL_law_100 (by decide) (fun c_100 => ?_) (fun c_100 => ?_)
    · exact absurd c_100 (by decide)
    refine z_aload_n C dL_law_103 rfl ?_
    refine z_aload_n C dL_law_104 rfl ?_
    refine z_aload_n C dL_law_105 rfl ?_
    refine z_aload C dL_law_106 rfl ?_
    refine z_aload C dL_law_108 rfl ?_
    refine z_aload C dL_law_110 rfl ?_
    refine z_aload C dL_law_112 rfl ?_
    refine z_aload_n C dL_law_114 rfl ?_
    refine z_iconst C (v := 2) dL_law_115 (by decide) ?_
    refine z_iload C dL_law_116 rfl ?_
    refine z_imul C dL_law_118 ?_
    rw [show (2 : Int32) * nI k = nI (2 * k) from pk_mul 2 k]
    refine z_csa C hX hbl hbA (c_L_at hbA hL (by omega)) wd179 ⟨Nat.le_of_ble_eq_true rfl, Nat.le_of_ble_eq_true rfl⟩ ⟨Nat.le_trans (m := 500000) (by omega) room_c, Nat.le_trans (m := 5000000) (by omega) room_s⟩ (Nat.le_of_ble_eq_true rfl) dL_law_119 (fun r119 => ?_)
    refine z_aload_n C dL_law_122 rfl ?_
    refine z_iconst C (v := 2) dL_law_123 (by decide) ?_
    refine z_iload C dL_law_124 rfl ?_
    refine z_imul C dL_law_126 ?_
    rw [show (2 : Int32) * nI k = nI (2 * k) from pk_mul 2 k]
    refine z_iconst C (v := 1) dL_law_127 (by decide) ?_
    refine z_iadd C dL_law_128 ?_
    rw [nI_1]
    refine z_csa C hX hbl hbA (c_L_at hbA hL (by omega)) wd179 ⟨Nat.le_of_ble_eq_true rfl, Nat.le_of_ble_eq_true rfl⟩ ⟨Nat.le_trans (m := 500000) (by omega) room_c, Nat.le_trans (m := 5000000) (by omega) room_s⟩ (Nat.le_of_ble_eq_true rfl) dL_law_129 (fun r129 => ?_)
    refine z_csk C (As := [_, _, _, _, _, _, _, _, _]) (c_L_acts hI (by omega) h0) okL_acts wd444 ⟨Nat.le_of_ble_eq_true rfl, Nat.le_of_ble_eq_true rfl⟩ ⟨Nat.le_trans (m := 500000) (by omega) room_c, Nat.le_trans (m := 5000000) (by omega) room_s⟩ rfl (Nat.le_of_ble_eq_true rfl) dL_law_132 ?_
    rintro _ τ ⟨rfl, hI2⟩
    refine z_istore C dL_law_135 (by decide) ?_
    dsimp only [List.set]
    refine z_iinc C (v := 1) dL_law_137 rfl (by decide) (by decide) ?_
    dsimp only [List.set]
    refine z_goto C 90 dL_law_140 (by decide) ?_
    rw [nI_1]
    exact ih (k + 1) (by omega) τ hI2 (by omega) (by omega)
set_option maxRecDepth 100000 in
set_option maxHeartbeats 4000000 in
theorem law_40 {p : Program} {l : Launch} {e : Env} {s : State} {m : MethodId} {args : Array Value} {below : List Frame} {meth : Method} {c : Code} {D : va_G} {ad : Nat → Nat → Nat} {cy : Nat → ClassId} {A : Nat → Prop} {sa : Nat → Nat} {Q : State → Prop} (C : Cx p l s m args meth c cL_law "FretSchoolLaw" 10 (some .boolean) D ad cy A sa) (kend : ∀ (σ : St) (L : List (Option Value)) (cells slots : Nat), cells ≤ room_1.cells → slots ≤ room_1.slots → Z p l e room_1 s m args below meth c D ad cy A 10 cells slots Q σ L 202 [.int 1]) {b L : Nat} {xs : Nat → Int32} (hX : va_X b L xs s s.heap) (hbl : b < s.heap.size) (hbA : ¬ A b) (hL : L ≤ 260) (h0 : ad 99 0 = 0) : Z p l e room_1 s m args below meth c D ad cy A 10 (89) (698) Q (sS) [some (.ref b), some (.ref (ad 0 0)), some (.ref (ad 17 0)), some (.ref (ad 18 0)), some (.ref (ad 19 0)), some (.ref (ad 20 0)), some (.ref (ad 21 0)), some (.ref (ad 22 0)), none, none] 40 [] := by
  have hτ : SameC sS sS := SameC.rf
  refine z_aload_n C dL_law_40 rfl ?_
  refine z_cvi C (As := []) (c_X5_today) okX5_today wd175 rc_0 ⟨Nat.le_of_ble_eq_true rfl, Nat.le_of_ble_eq_true rfl⟩ ⟨Nat.le_of_ble_eq_true rfl, Nat.le_of_ble_eq_true rfl⟩ rfl (Nat.le_of_ble_eq_true rfl) dL_law_41 ?_
  rintro _ _ ⟨rfl, rfl⟩
  refine z_if_ne C 84 dL_law_44 (by decide) (fun c_44 => ?_) (fun c_44 => ?_)
  · exact absurd (show sS 0 0 9 = 0 from sS_0 (by omega) (by omega) (by omega)) c_44
  refine z_aload_n C dL_law_47 rfl ?_
  refine z_cvi C (As := []) (c_X5_instruments) okX5_instruments wd171 rc_0 ⟨Nat.le_of_ble_eq_true rfl, Nat.le_of_ble_eq_true rfl⟩ ⟨Nat.le_of_ble_eq_true rfl, Nat.le_of_ble_eq_true rfl⟩ rfl (Nat.le_of_ble_eq_true rfl) dL_law_48 ?_
  rintro _ _ ⟨rfl, rfl⟩
  refine z_if_ne C 84 dL_law_51 (by decide) (fun c_51 => ?_) (fun c_51 => ?_)
  · exact absurd (show sS 0 0 7 = 0 from sS_0 (by omega) (by omega) (by omega)) c_51
  refine z_aload_n C dL_law_54 rfl ?_
  refine z_iconst C (v := 4) dL_law_55 (by decide) ?_
  refine z_csw C (As := [_, _]) (c_L_level) wd185 wd13 wd186 hd_level wd184 ⟨Nat.le_of_ble_eq_true rfl, Nat.le_of_ble_eq_true rfl⟩ ⟨Nat.le_of_ble_eq_true rfl, Nat.le_of_ble_eq_true rfl⟩ rfl (Nat.le_of_ble_eq_true rfl) dL_law_56 ?_
  intro r56 τ h56
  obtain ⟨hτ, rfl⟩ := S_pup (σ := sS) 0 (w := 4) hτ h56 (by omega)
  refine z_iconst C (v := 2) dL_law_59 (by decide) ?_
  refine z_icmp_ne C 84 dL_law_60 (by decide) (fun c_60 => ?_) (fun c_60 => ?_)
  · exact absurd (show sS 15 4 0 = 2 from rfl) c_60
  refine z_aload_n C dL_law_63 rfl ?_
  refine z_iconst C (v := 0) dL_law_64 (by decide) ?_
  refine z_csw C (As := [_, _]) (c_L_known) wd268 wd13 wd269 hd_known wd267 ⟨Nat.le_of_ble_eq_true rfl, Nat.le_of_ble_eq_true rfl⟩ ⟨Nat.le_of_ble_eq_true rfl, Nat.le_of_ble_eq_true rfl⟩ rfl (Nat.le_of_ble_eq_true rfl) dL_law_65 ?_
  intro r65 τ h65
  obtain ⟨hτ, rfl⟩ := S_pup (σ := sS) 1 (w := 0) hτ h65 (by omega)
  refine z_if_ne C 84 dL_law_68 (by decide) (fun c_68 => ?_) (fun c_68 => ?_)
  · exact absurd (show sS 15 0 1 = 0 from rfl) c_68
  refine z_aload_n C dL_law_71 rfl ?_
  refine z_iconst C (v := 0) dL_law_72 (by decide) ?_
  refine z_csw C (As := [_, _]) (c_L_next (hτ.inv LInv_start.1)) wd275 wd13 wd276 hd_next wd274 ⟨Nat.le_of_ble_eq_true rfl, Nat.le_of_ble_eq_true rfl⟩ ⟨Nat.le_of_ble_eq_true rfl, Nat.le_of_ble_eq_true rfl⟩ rfl (Nat.le_of_ble_eq_true rfl) dL_law_73 ?_
  intro r73 τ h73
  obtain ⟨hτ, rfl⟩ := S_next (σ := sS) (w := 0) (ni := 0) (np := 0) hτ h73 (by omega) (sS_0 (by omega) (by omega) (by omega)) (sS_0 (by omega) (by omega) (by omega)) (by omega) (by omega)
  refine z_iconst C (v := (-1)) dL_law_76 (by decide) ?_
  refine z_icmp_ne C 84 dL_law_77 (by decide) (fun c_77 => ?_) (fun c_77 => ?_)
  · exact absurd (show (nxV sS (nI 0) 0 0).1 = -1 from rfl) c_77
  refine z_iconst C (v := 1) dL_law_80 (by decide) ?_
  refine z_goto C 85 dL_law_81 (by decide) ?_
  refine z_istore C dL_law_85 (by decide) ?_
  dsimp only [List.set]
  refine z_iconst C (v := 0) dL_law_87 (by decide) ?_
  refine z_istore C dL_law_88 (by decide) ?_
  dsimp only [List.set]
  exact law_loop1 C kend hX hbl hbA hL h0 160 0 rfl τ (LInv_start.same hτ) (by omega) (by omega)
theorem b_astore {p : Program} {l : Launch} {e : Env} {R : Room} {s : State} {m : MethodId} {args : Array Value} {below : List Frame} {meth : Method} {c : Code} {D : va_G} {cy : Nat → ClassId} {A : Nat → Prop} {nL cells slots : Nat} {Q : State → Prop} {ws : va_W} {L : List (Option Value)} {pc : Nat} {st : List Value} {cc : ByteArray} {own : String} {ret : Option FieldType} (C : Bx p s m args meth c cc own nL ret D cy A) {n : Nat} {x : Nat} (hdg : decode cc pc = .ok (.astore n, 2)) (hn : n < nL) (k : ZB p l e R s m args below meth c D A nL cells slots Q ws (L.set n (some (.ref x))) (pc + 2) st) : ZB p l e R s m args below meth c D A nL cells slots Q ws L pc (.ref x :: st) :=
  fun H locs _ hP hD hS hl => lv_astore C.1 C.2.1 hdg hl.has hn rfl (fun ls' h' => k H locs ls' hP hD hS (hl.set rfl h'))
