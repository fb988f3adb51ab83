/-! ===== fetches ===== -/
theorem ix4 (n k : Nat) : 4 * nI n + nI k = nI (4 * n + k) := by rw [show (4 : Int32) = nI 4 from rfl, pk_mul, nI_add]
theorem div8 {f w : Nat} (hf : f < 100) (hw : w < 8) : nI (w + 8 * f) / 8 = nI f := by
  rw [show (8 : Int32) = nI 8 from rfl, pk_div (by omega) (by omega) (by omega), show (w + 8 * f) / 8 = f by omega]
theorem rem8 {f w : Nat} (hf : f < 100) (hw : w < 8) : nI (w + 8 * f) - nI (w + 8 * f) / 8 * 8 = nI w := by
  rw [show (8 : Int32) = nI 8 from rfl, pk_rem (by omega) (by omega) (by omega), show (w + 8 * f) % 8 = w by omega]
theorem out4 {a b c0 d0 : Nat} (ha : a ≤ 60) (hb : b ≤ 60) (hc : c0 ≤ 60) (hd : d0 ≤ 60) : ¬ (outR (nI a) 0 60 ∨ outR (nI b) 0 60 ∨ outR (nI c0) 0 60 ∨ outR (nI d0) 0 60) := fun h => h.elim (in_nI (a := 0) (b := 60) (by omega) ha (by omega)) (fun h => h.elim (in_nI (a := 0) (b := 60) (by omega) hb (by omega)) (fun h => h.elim (in_nI (a := 0) (b := 60) (by omega) hc (by omega)) (in_nI (a := 0) (b := 60) (by omega) hd (by omega))))
section
variable {p : Program} {l : Launch} {e : Env} {R : Room} {s : State} {m : MethodId} {args : Array Value} {below : List Frame} {meth : Method} {c : Code} {D : va_G} {ad : Nat → Nat → Nat} {cy : Nat → ClassId} {A : Nat → Prop} {sa : Nat → Nat} {cells slots : Nat} {σ : St}
set_option maxRecDepth 100000 in
set_option maxHeartbeats 4000000 in
theorem lp_f251y (C : Cx p l s m args meth c cL_fetches "FretSchoolLaw" 13 (some .boolean) D ad cy A sa) {T : Nat} {σ : St} (hI : LInv T σ) {no ni : Nat} (eno : σ 0 0 8 = nI no) (hno : no ≤ 20) (eni : σ 0 0 7 = nI ni) (hni : ni ≤ 8) {x y : Int32} {j : Nat} (hj : j < no) {w f : Nat} (hw : w < 5) (hf1 : 4 ≤ f) (hf2 : f ≤ 16) (e0 : σ 16 j 0 = nI w) (e1 : σ 16 j 1 = nI f) (e3 : σ 16 j 3 = 0) (e20 : σ 20 0 j = nI (w + 8 * f)) (hrd : ¬ σ 0 0 9 < σ 16 j 2) (hn8 : ni < 8) {pp ss : Nat} (hpp : pp < 20) (hss : ss < 8) {o12 : Option Value} (hc1 : cells + 35 ≤ 45) (hc2 : slots + 210 ≤ 6 * 45) : Z p l e (rmD 10 45) s m args below meth c D ad cy A 13 (cells) (slots) (MQ below (va_Qi (fun r σ' => r = 1 ∧ LInv T σ') (Bw D ad cy) A) args s 45 (6 * 45) A) (SFet σ ni j f w (nI pp) (nI (pp + ss)) (nI (pp + 2 * ss)) (nI (pp + 3 * ss))) [some (.ref (ad 0 0)), some (.ref (ad 18 0)), some (.ref (ad 19 0)), some (.ref (ad 20 0)), some (.ref (ad 22 0)), some (.int x), some (.int y), some (.int (nI j)), some (.int 1), some (.int (nI ni)), some (.int (nI pp)), some (.int (nI ss)), o12] 251 [] := by
  refine z_aload_n C dL_fetches_251 rfl ?_
  refine z_iload C dL_fetches_252 rfl ?_
  refine z_iload C dL_fetches_254 rfl ?_
  refine z_iload C dL_fetches_256 rfl ?_
  refine z_iload C dL_fetches_258 rfl ?_
  refine z_iadd C dL_fetches_260 ?_
  rw [nI_add]
  refine z_iload C dL_fetches_261 rfl ?_
  refine z_iconst C (v := 2) dL_fetches_263 (by decide) ?_
  refine z_iload C dL_fetches_264 rfl ?_
  refine z_imul C dL_fetches_266 ?_
  rw [show (2 : Int32) * nI ss = nI (2 * ss) from pk_mul 2 ss]
  refine z_iadd C dL_fetches_267 ?_
  rw [nI_add]
  refine z_iload C dL_fetches_268 rfl ?_
  refine z_iconst C (v := 3) dL_fetches_270 (by decide) ?_
  refine z_iload C dL_fetches_271 rfl ?_
  refine z_imul C dL_fetches_273 ?_
  rw [show (3 : Int32) * nI ss = nI (3 * ss) from pk_mul 3 ss]
  refine z_iadd C dL_fetches_274 ?_
  rw [nI_add]
  refine z_csw C (As := [_, _, _, _, _, _]) (c_L_fetch (by unfold SFet; exact Inv_law (by omega) (Inv_law (by omega) (Inv_law (by omega) (Inv_law (by omega) (Inv_law (by omega) (Inv_law (by omega) (Inv_law (by omega) hI.1)))))))) wd551 wd13 wd552 hd_fetch wd550 (rok (by decide) (by decide)) ⟨by show _ ≤ 45; omega, by show _ ≤ 6 * (45); omega⟩ rfl (Nat.le_of_ble_eq_true rfl) dL_fetches_275 ?_
  intro r275 τ h275
  have hK : K_fetch (SFet σ ni j f w (nI pp) (nI (pp + ss)) (nI (pp + 2 * ss)) (nI (pp + 3 * ss))) (nI j) (nI pp) (nI (pp + ss)) (nI (pp + 2 * ss)) (nI (pp + 3 * ss)) = 0 := K_fetch_z (by rw [SFet_n (by omega), eno]; exact ok_nI hj (by omega)) (out4 (by omega) (by omega) (by omega) (by omega)) (by
    rw [ix_nI (by omega), SFet_n (by omega), SFet_n (by omega), SFet_n (by omega), SFet_n (by omega), eni, e3]
    exact fun q => q.elim hrd (fun q => q.elim (fun q => q rfl) (fun q => q (nI_lt (b := 8) hn8 (by omega)))))
  obtain ⟨e275, eτ⟩ := h275.yes hK
  rw [SFet_n (by omega), eni] at e275
  rw [ix_nI (show j < 2 ^ 31 by omega), show ix ((SFet σ ni j f w (nI pp) (nI (pp + ss)) (nI (pp + 2 * ss)) (nI (pp + 3 * ss))) 0 0 7) = ni by rw [SFet_n (by omega), eni, ix_nI (by omega)]] at eτ
  have hI2 : LInv T τ := by rw [← eτ]; exact LInv_fetch hI eni hn8 eno hno hj hw hf1 hf2 e0 e1 hK
  have eni2 : τ 0 0 7 = nI (ni + 1) := by rw [← eτ]; unfold fetchS; rw [up_at]
  have eno2 : τ 0 0 8 = nI no := by rw [← eτ]; unfold fetchS; rw [up_n (by omega), up_n (by omega), up_n (by omega), up_n (by omega), up_n (by omega), up_n (by omega), up_n (by omega), up_n (by omega), SFet_n (by omega)]; exact eno
  have e32 : τ 16 j 3 = 1 := by rw [← eτ]; unfold fetchS; rw [up_n (by omega), up_n (by omega), up_n (by omega), up_n (by omega), up_n (by omega), up_n (by omega), up_n (by omega), up_at]
  have e13 : τ 13 ni 1 = nI w := by rw [← eτ]; unfold fetchS; rw [up_n (by omega), up_n (by omega), up_n (by omega), up_n (by omega), up_n (by omega), up_n (by omega), up_at, SFet_n (by omega), e0]
  have e19 : τ 19 0 ni = nI (f + 32 * w) := by rw [← eτ]; unfold fetchS; rw [up_n (by omega), up_n (by omega), up_n (by omega), up_n (by omega), up_n (by omega), up_n (by omega), up_n (by omega), up_n (by omega)]; unfold SFet; rw [up_n (by omega), up_n (by omega), up_at]
  clear eτ h275
  have hI := hI2
  have eno := eno2
  have h3 : τ 0 0 9 < τ 16 j 2 ∨ ¬ τ 16 j 3 = 0 ∨ ¬ τ 0 0 7 < 8 := Or.inr (Or.inl (by rw [e32]; decide))
  refine z_iload C dL_fetches_278 rfl ?_
  refine z_icmp_ne C 383 dL_fetches_280 (by decide) (fun c_280 => ?_) (fun c_280 => ?_)
  · exact absurd e275 c_280
  refine z_aload_n C dL_fetches_283 rfl ?_
  refine z_iload C dL_fetches_284 rfl ?_
  refine z_iconst C (v := 0) dL_fetches_286 (by decide) ?_
  refine z_iconst C (v := 0) dL_fetches_287 (by decide) ?_
  refine z_iconst C (v := (-1)) dL_fetches_288 (by decide) ?_
  refine z_iconst C (v := 0) dL_fetches_289 (by decide) ?_
  refine z_csw C (As := [_, _, _, _, _, _]) (c_L_fetch hI.1) wd551 wd13 wd552 hd_fetch wd550 (rok (by decide) (by decide)) ⟨by show _ ≤ 45; omega, by show _ ≤ 6 * (45); omega⟩ rfl (Nat.le_of_ble_eq_true rfl) dL_fetches_290 ?_
  intro r290 τ290 h290
  obtain ⟨rfl, rfl⟩ := h290.not (j := 1) (K_fetch_2 (by rw [eno]; exact ok_nI hj (by omega)) (Or.inr (Or.inr (Or.inl (Or.inl (by decide)))))) rfl
  refine z_ldc C (v := (-1000002)) wd266 dL_fetches_293 ?_
  refine z_icmp_ne C 383 dL_fetches_295 (by decide) (fun c_295 => ?_) (fun c_295 => ?_)
  · exact absurd rfl c_295
  refine z_aload_n C dL_fetches_298 rfl ?_
  refine z_iload C dL_fetches_299 rfl ?_
  refine z_bipush C (v := 61) dL_fetches_301 (by decide) ?_
  refine z_iconst C (v := 0) dL_fetches_303 (by decide) ?_
  refine z_iconst C (v := 0) dL_fetches_304 (by decide) ?_
  refine z_iconst C (v := 0) dL_fetches_305 (by decide) ?_
  refine z_csw C (As := [_, _, _, _, _, _]) (c_L_fetch hI.1) wd551 wd13 wd552 hd_fetch wd550 (rok (by decide) (by decide)) ⟨by show _ ≤ 45; omega, by show _ ≤ 6 * (45); omega⟩ rfl (Nat.le_of_ble_eq_true rfl) dL_fetches_306 ?_
  intro r306 τ306 h306
  obtain ⟨rfl, rfl⟩ := h306.not (j := 1) (K_fetch_2 (by rw [eno]; exact ok_nI hj (by omega)) (Or.inl (Or.inr (by decide)))) rfl
  refine z_ldc C (v := (-1000002)) wd266 dL_fetches_309 ?_
  refine z_icmp_ne C 383 dL_fetches_311 (by decide) (fun c_311 => ?_) (fun c_311 => ?_)
  · exact absurd rfl c_311
  refine z_aload_n C dL_fetches_314 rfl ?_
  refine z_aload C dL_fetches_315 rfl ?_
  refine z_iconst C (v := 2) dL_fetches_317 (by decide) ?_
  refine a_22 C (j := 2) (by decide) (by decide) dL_fetches_318 ?_
  rw [hI.2.1.2.2.1, eno]
  refine z_iconst C (v := 0) dL_fetches_319 (by decide) ?_
  refine z_iconst C (v := 0) dL_fetches_320 (by decide) ?_
  refine z_iconst C (v := 0) dL_fetches_321 (by decide) ?_
  refine z_bipush C (v := 61) dL_fetches_322 (by decide) ?_
  refine z_csw C (As := [_, _, _, _, _, _]) (c_L_fetch hI.1) wd551 wd13 wd552 hd_fetch wd550 (rok (by decide) (by decide)) ⟨by show _ ≤ 45; omega, by show _ ≤ 6 * (45); omega⟩ rfl (Nat.le_of_ble_eq_true rfl) dL_fetches_324 ?_
  intro r324 τ324 h324
  obtain ⟨rfl, rfl⟩ := h324.not (j := 0) (K_fetch_1 (by rw [eno]; exact no_nI (Nat.le_refl _) (by omega))) rfl
  refine z_ldc C (v := (-1000001)) wd367 dL_fetches_327 ?_
  refine z_icmp_ne C 383 dL_fetches_329 (by decide) (fun c_329 => ?_) (fun c_329 => ?_)
  · exact absurd rfl c_329
  refine z_aload_n C dL_fetches_332 rfl ?_
  refine z_iload C dL_fetches_333 rfl ?_
  refine z_iconst C (v := 0) dL_fetches_335 (by decide) ?_
  refine z_iconst C (v := 0) dL_fetches_336 (by decide) ?_
  refine z_iconst C (v := 0) dL_fetches_337 (by decide) ?_
  refine z_iconst C (v := 0) dL_fetches_338 (by decide) ?_
  refine z_csw C (As := [_, _, _, _, _, _]) (c_L_fetch hI.1) wd551 wd13 wd552 hd_fetch wd550 (rok (by decide) (by decide)) ⟨by show _ ≤ 45; omega, by show _ ≤ 6 * (45); omega⟩ rfl (Nat.le_of_ble_eq_true rfl) dL_fetches_339 ?_
  intro r339 τ339 h339
  obtain ⟨rfl, rfl⟩ := h339.not (j := 2) (K_fetch_3 (by rw [eno]; exact ok_nI hj (by omega)) (out4 (a := 0) (b := 0) (c0 := 0) (d0 := 0) (by omega) (by omega) (by omega) (by omega)) (by rw [ix_nI (by omega)]; exact h3)) rfl
  refine z_ldc C (v := (-1000003)) wd443 dL_fetches_342 ?_
  refine z_icmp_ne C 383 dL_fetches_344 (by decide) (fun c_344 => ?_) (fun c_344 => ?_)
  · exact absurd rfl c_344
  refine z_aload_n C dL_fetches_347 rfl ?_
  refine z_cvi C (As := []) (c_X5_instruments) okX5_instruments wd171 rc_0 (rok (by decide) (by decide)) ⟨by show _ ≤ 45; omega, by show _ ≤ 6 * (45); omega⟩ rfl (Nat.le_of_ble_eq_true rfl) dL_fetches_348 ?_
  rintro _ _ ⟨rfl, rfl⟩
  refine z_aload C dL_fetches_351 rfl ?_
  refine z_iconst C (v := 1) dL_fetches_353 (by decide) ?_
  refine a_22 C (j := 1) (by decide) (by decide) dL_fetches_354 ?_
  refine z_icmp_ne C 383 dL_fetches_355 (by decide) (fun c_355 => ?_) (fun c_355 => ?_)
  · exact absurd hI.2.1.2.1.symm c_355
  refine z_iload C dL_fetches_358 rfl ?_
  refine z_if_lt C 379 dL_fetches_360 (by decide) (fun c_360 => ?_) (fun c_360 => ?_)
  · exact absurd c_360 (nI_pos (by omega))
  refine z_aload_n C dL_fetches_363 rfl ?_
  refine z_iload C dL_fetches_364 rfl ?_
  refine z_csw C (As := [_, _]) (c_L_owner hI.1) wd569 wd13 wd570 hd_owner wd568 (rok (by decide) (by decide)) ⟨by show _ ≤ 45; omega, by show _ ≤ 6 * (45); omega⟩ rfl (Nat.le_of_ble_eq_true rfl) dL_fetches_366 ?_
  intro r366 τ366 h366
  obtain ⟨e366, rfl⟩ := h366.yes (K_inst_z (by rw [eni2]; exact ok_nI (by omega) (by omega)))
  rw [ix_nI (by omega), e13] at e366
  subst e366
  refine z_aload_n C dL_fetches_369 rfl ?_
  refine z_iload C dL_fetches_370 rfl ?_
  refine a_19 C (j := ni) rfl (by omega) dL_fetches_372 ?_
  rw [e19]
  refine z_bipush C (v := 32) dL_fetches_373 (by decide) ?_
  refine z_idiv C (by decide) dL_fetches_375 ?_
  rw [div32 (by omega) (by omega)]
  refine z_icmp_ne C 383 dL_fetches_376 (by decide) (fun c_376 => ?_) (fun c_376 => ?_)
  · exact absurd rfl c_376
  refine z_iconst C (v := 1) dL_fetches_379 (by decide) ?_
  refine z_goto C 384 dL_fetches_380 (by decide) ?_
  refine z_widen (mc := 45) (ms := 6 * 45) (by first | decide | omega) (by first | decide | omega) ?_
  refine z_zret C dL_fetches_384 (by first | exact Or.inl rfl | exact Or.inr rfl | assumption) ?_
  exact ⟨rfl, hI⟩
end
section
variable {p : Program} {l : Launch} {e : Env} {R : Room} {s : State} {m : MethodId} {args : Array Value} {below : List Frame} {meth : Method} {c : Code} {D : va_G} {ad : Nat → Nat → Nat} {cy : Nat → ClassId} {A : Nat → Prop} {sa : Nat → Nat} {cells slots : Nat} {σ : St}
set_option maxRecDepth 100000 in
set_option maxHeartbeats 4000000 in
theorem lp_f251n (C : Cx p l s m args meth c cL_fetches "FretSchoolLaw" 13 (some .boolean) D ad cy A sa) {T : Nat} {σ : St} (hI : LInv T σ) {no ni : Nat} (eno : σ 0 0 8 = nI no) (hno : no ≤ 20) (eni : σ 0 0 7 = nI ni) (hni : ni ≤ 8) {x y : Int32} {j : Nat} (hj : j < no) (h3 : σ 0 0 9 < σ 16 j 2 ∨ ¬ σ 16 j 3 = 0 ∨ ¬ σ 0 0 7 < 8) {pp ss : Nat} (hpp : pp < 20) (hss : ss < 8) {o12 : Option Value} (hc1 : cells + 35 ≤ 45) (hc2 : slots + 210 ≤ 6 * 45) : Z p l e (rmD 10 45) s m args below meth c D ad cy A 13 (cells) (slots) (MQ below (va_Qi (fun r σ' => r = 1 ∧ LInv T σ') (Bw D ad cy) A) args s 45 (6 * 45) A) (σ) [some (.ref (ad 0 0)), some (.ref (ad 18 0)), some (.ref (ad 19 0)), some (.ref (ad 20 0)), some (.ref (ad 22 0)), some (.int x), some (.int y), some (.int (nI j)), some (.int 0), some (.int (-1000003)), some (.int (nI pp)), some (.int (nI ss)), o12] 251 [] := by
  refine z_aload_n C dL_fetches_251 rfl ?_
  refine z_iload C dL_fetches_252 rfl ?_
  refine z_iload C dL_fetches_254 rfl ?_
  refine z_iload C dL_fetches_256 rfl ?_
  refine z_iload C dL_fetches_258 rfl ?_
  refine z_iadd C dL_fetches_260 ?_
  rw [nI_add]
  refine z_iload C dL_fetches_261 rfl ?_
  refine z_iconst C (v := 2) dL_fetches_263 (by decide) ?_
  refine z_iload C dL_fetches_264 rfl ?_
  refine z_imul C dL_fetches_266 ?_
  rw [show (2 : Int32) * nI ss = nI (2 * ss) from pk_mul 2 ss]
  refine z_iadd C dL_fetches_267 ?_
  rw [nI_add]
  refine z_iload C dL_fetches_268 rfl ?_
  refine z_iconst C (v := 3) dL_fetches_270 (by decide) ?_
  refine z_iload C dL_fetches_271 rfl ?_
  refine z_imul C dL_fetches_273 ?_
  rw [show (3 : Int32) * nI ss = nI (3 * ss) from pk_mul 3 ss]
  refine z_iadd C dL_fetches_274 ?_
  rw [nI_add]
  refine z_csw C (As := [_, _, _, _, _, _]) (c_L_fetch hI.1) wd551 wd13 wd552 hd_fetch wd550 (rok (by decide) (by decide)) ⟨by show _ ≤ 45; omega, by show _ ≤ 6 * (45); omega⟩ rfl (Nat.le_of_ble_eq_true rfl) dL_fetches_275 ?_
  intro r275 τ275 h275
  obtain ⟨e275, rfl⟩ := h275.not (j := 2) (K_fetch_3 (by rw [eno]; exact ok_nI hj (by omega)) (out4 (by omega) (by omega) (by omega) (by omega)) (by rw [ix_nI (by omega)]; exact h3)) rfl
  refine z_iload C dL_fetches_278 rfl ?_
  refine z_icmp_ne C 383 dL_fetches_280 (by decide) (fun c_280 => ?_) (fun c_280 => ?_)
  · exact absurd e275 c_280
  refine z_aload_n C dL_fetches_283 rfl ?_
  refine z_iload C dL_fetches_284 rfl ?_
  refine z_iconst C (v := 0) dL_fetches_286 (by decide) ?_
  refine z_iconst C (v := 0) dL_fetches_287 (by decide) ?_
  refine z_iconst C (v := (-1)) dL_fetches_288 (by decide) ?_
  refine z_iconst C (v := 0) dL_fetches_289 (by decide) ?_
  refine z_csw C (As := [_, _, _, _, _, _]) (c_L_fetch hI.1) wd551 wd13 wd552 hd_fetch wd550 (rok (by decide) (by decide)) ⟨by show _ ≤ 45; omega, by show _ ≤ 6 * (45); omega⟩ rfl (Nat.le_of_ble_eq_true rfl) dL_fetches_290 ?_
  intro r290 τ290 h290
  obtain ⟨rfl, rfl⟩ := h290.not (j := 1) (K_fetch_2 (by rw [eno]; exact ok_nI hj (by omega)) (Or.inr (Or.inr (Or.inl (Or.inl (by decide)))))) rfl
  refine z_ldc C (v := (-1000002)) wd266 dL_fetches_293 ?_
  refine z_icmp_ne C 383 dL_fetches_295 (by decide) (fun c_295 => ?_) (fun c_295 => ?_)
  · exact absurd rfl c_295
  refine z_aload_n C dL_fetches_298 rfl ?_
  refine z_iload C dL_fetches_299 rfl ?_
  refine z_bipush C (v := 61) dL_fetches_301 (by decide) ?_
  refine z_iconst C (v := 0) dL_fetches_303 (by decide) ?_
  refine z_iconst C (v := 0) dL_fetches_304 (by decide) ?_
  refine z_iconst C (v := 0) dL_fetches_305 (by decide) ?_
  refine z_csw C (As := [_, _, _, _, _, _]) (c_L_fetch hI.1) wd551 wd13 wd552 hd_fetch wd550 (rok (by decide) (by decide)) ⟨by show _ ≤ 45; omega, by show _ ≤ 6 * (45); omega⟩ rfl (Nat.le_of_ble_eq_true rfl) dL_fetches_306 ?_
  intro r306 τ306 h306
  obtain ⟨rfl, rfl⟩ := h306.not (j := 1) (K_fetch_2 (by rw [eno]; exact ok_nI hj (by omega)) (Or.inl (Or.inr (by decide)))) rfl
  refine z_ldc C (v := (-1000002)) wd266 dL_fetches_309 ?_
  refine z_icmp_ne C 383 dL_fetches_311 (by decide) (fun c_311 => ?_) (fun c_311 => ?_)
  · exact absurd rfl c_311
  refine z_aload_n C dL_fetches_314 rfl ?_
  refine z_aload C dL_fetches_315 rfl ?_
  refine z_iconst C (v := 2) dL_fetches_317 (by decide) ?_
  refine a_22 C (j := 2) (by decide) (by decide) dL_fetches_318 ?_
  rw [hI.2.1.2.2.1, eno]
  refine z_iconst C (v := 0) dL_fetches_319 (by decide) ?_
  refine z_iconst C (v := 0) dL_fetches_320 (by decide) ?_
  refine z_iconst C (v := 0) dL_fetches_321 (by decide) ?_
  refine z_bipush C (v := 61) dL_fetches_322 (by decide) ?_
  refine z_csw C (As := [_, _, _, _, _, _]) (c_L_fetch hI.1) wd551 wd13 wd552 hd_fetch wd550 (rok (by decide) (by decide)) ⟨by show _ ≤ 45; omega, by show _ ≤ 6 * (45); omega⟩ rfl (Nat.le_of_ble_eq_true rfl) dL_fetches_324 ?_
  intro r324 τ324 h324
  obtain ⟨rfl, rfl⟩ := h324.not (j := 0) (K_fetch_1 (by rw [eno]; exact no_nI (Nat.le_refl _) (by omega))) rfl
  refine z_ldc C (v := (-1000001)) wd367 dL_fetches_327 ?_
  refine z_icmp_ne C 383 dL_fetches_329 (by decide) (fun c_329 => ?_) (fun c_329 => ?_)
  · exact absurd rfl c_329
  refine z_aload_n C dL_fetches_332 rfl ?_
  refine z_iload C dL_fetches_333 rfl ?_
  refine z_iconst C (v := 0) dL_fetches_335 (by decide) ?_
  refine z_iconst C (v := 0) dL_fetches_336 (by decide) ?_
  refine z_iconst C (v := 0) dL_fetches_337 (by decide) ?_
  refine z_iconst C (v := 0) dL_fetches_338 (by decide) ?_
  refine z_csw C (As := [_, _, _, _, _, _]) (c_L_fetch hI.1) wd551 wd13 wd552 hd_fetch wd550 (rok (by decide) (by decide)) ⟨by show _ ≤ 45; omega, by show _ ≤ 6 * (45); omega⟩ rfl (Nat.le_of_ble_eq_true rfl) dL_fetches_339 ?_
  intro r339 τ339 h339
  obtain ⟨rfl, rfl⟩ := h339.not (j := 2) (K_fetch_3 (by rw [eno]; exact ok_nI hj (by omega)) (out4 (a := 0) (b := 0) (c0 := 0) (d0 := 0) (by omega) (by omega) (by omega) (by omega)) (by rw [ix_nI (by omega)]; exact h3)) rfl
  refine z_ldc C (v := (-1000003)) wd443 dL_fetches_342 ?_
  refine z_icmp_ne C 383 dL_fetches_344 (by decide) (fun c_344 => ?_) (fun c_344 => ?_)
  · exact absurd rfl c_344
  refine z_aload_n C dL_fetches_347 rfl ?_
  refine z_cvi C (As := []) (c_X5_instruments) okX5_instruments wd171 rc_0 (rok (by decide) (by decide)) ⟨by show _ ≤ 45; omega, by show _ ≤ 6 * (45); omega⟩ rfl (Nat.le_of_ble_eq_true rfl) dL_fetches_348 ?_
  rintro _ _ ⟨rfl, rfl⟩
  refine z_aload C dL_fetches_351 rfl ?_
  refine z_iconst C (v := 1) dL_fetches_353 (by decide) ?_
  refine a_22 C (j := 1) (by decide) (by decide) dL_fetches_354 ?_
  refine z_icmp_ne C 383 dL_fetches_355 (by decide) (fun c_355 => ?_) (fun c_355 => ?_)
  · exact absurd hI.2.1.2.1.symm c_355
  refine z_iload C dL_fetches_358 rfl ?_
  refine z_if_lt C 379 dL_fetches_360 (by decide) (fun c_360 => ?_) (fun c_360 => ?_)
  rotate_left
  · exact absurd (by decide) c_360
  refine z_iconst C (v := 1) dL_fetches_379 (by decide) ?_
  refine z_goto C 384 dL_fetches_380 (by decide) ?_
  refine z_widen (mc := 45) (ms := 6 * 45) (by first | decide | omega) (by first | decide | omega) ?_
  refine z_zret C dL_fetches_384 (by first | exact Or.inl rfl | exact Or.inr rfl | assumption) ?_
  exact ⟨rfl, hI⟩
end
section
variable {p : Program} {l : Launch} {e : Env} {R : Room} {s : State} {m : MethodId} {args : Array Value} {below : List Frame} {meth : Method} {c : Code} {D : va_G} {ad : Nat → Nat → Nat} {cy : Nat → ClassId} {A : Nat → Prop} {sa : Nat → Nat} {cells slots : Nat} {σ : St}
set_option maxRecDepth 100000 in
set_option maxHeartbeats 4000000 in
theorem lp_f135y (C : Cx p l s m args meth c cL_fetches "FretSchoolLaw" 13 (some .boolean) D ad cy A sa) {T : Nat} {σ : St} (hI : LInv T σ) {no ni : Nat} (eno : σ 0 0 8 = nI no) (hno : no ≤ 20) (eni : σ 0 0 7 = nI ni) (hni : ni ≤ 8) {x y : Int32} {j : Nat} (hj : j < no) {w f : Nat} (hw : w < 5) (hf1 : 4 ≤ f) (hf2 : f ≤ 16) (e0 : σ 16 j 0 = nI w) (e1 : σ 16 j 1 = nI f) (e3 : σ 16 j 3 = 0) (e20 : σ 20 0 j = nI (w + 8 * f)) (hrd : ¬ σ 0 0 9 < σ 16 j 2) (hn8 : ni < 8) {o8 o9 o10 o11 o12 : Option Value} (hc1 : cells + 35 ≤ 45) (hc2 : slots + 210 ≤ 6 * 45) : Z p l e (rmD 10 45) s m args below meth c D ad cy A 13 (cells) (slots) (MQ below (va_Qi (fun r σ' => r = 1 ∧ LInv T σ') (Bw D ad cy) A) args s 45 (6 * 45) A) (σ) [some (.ref (ad 0 0)), some (.ref (ad 18 0)), some (.ref (ad 19 0)), some (.ref (ad 20 0)), some (.ref (ad 22 0)), some (.int x), some (.int y), some (.int (nI j)), o8, o9, o10, o11, o12] 135 [.int 1] := by
  refine z_istore C dL_fetches_135 (by decide) ?_
  dsimp only [List.set]
  refine z_iload C dL_fetches_137 rfl ?_
  refine z_if_eq C 149 dL_fetches_139 (by decide) (fun c_139 => ?_) (fun c_139 => ?_)
  · exact absurd c_139 (by decide)
  refine z_aload C dL_fetches_142 rfl ?_
  refine z_iconst C (v := 1) dL_fetches_144 (by decide) ?_
  refine a_22 C (j := 1) (by decide) (by decide) dL_fetches_145 ?_
  rw [hI.2.1.2.1, eni]
  refine z_goto C 151 dL_fetches_146 (by decide) ?_
  refine z_istore C dL_fetches_151 (by decide) ?_
  dsimp only [List.set]
  refine z_iload C dL_fetches_153 rfl ?_
  refine z_bipush C (v := 20) dL_fetches_155 (by decide) ?_
  refine z_csi C (As := [_, _]) (c_L_low (k := 20) rfl (by omega) (by omega)) okL_low wd447 (rok (by decide) (by decide)) ⟨by show _ ≤ 45; omega, by show _ ≤ 6 * (45); omega⟩ rfl (Nat.le_of_ble_eq_true rfl) dL_fetches_157 ?_
  rintro _ _ ⟨rfl, rfl⟩
  have hpp : lowN y 20 < 20 := lowN_lt (by omega)
  generalize lowN y 20 = pp at hpp ⊢
  refine z_istore C dL_fetches_160 (by decide) ?_
  dsimp only [List.set]
  refine z_iload C dL_fetches_162 rfl ?_
  refine z_bipush C (v := 6) dL_fetches_164 (by decide) ?_
  refine z_ishr C dL_fetches_166 ?_
  refine z_bipush C (v := 8) dL_fetches_167 (by decide) ?_
  refine z_csi C (As := [_, _]) (c_L_low (k := 8) rfl (by omega) (by omega)) okL_low wd447 (rok (by decide) (by decide)) ⟨by show _ ≤ 45; omega, by show _ ≤ 6 * (45); omega⟩ rfl (Nat.le_of_ble_eq_true rfl) dL_fetches_169 ?_
  rintro _ _ ⟨rfl, rfl⟩
  have hss : lowN (y >>> (6 &&& 31)) 8 < 8 := lowN_lt (by omega)
  generalize lowN (y >>> (6 &&& 31)) 8 = ss at hss ⊢
  refine z_istore C dL_fetches_172 (by decide) ?_
  dsimp only [List.set]
  refine z_iload C dL_fetches_174 rfl ?_
  refine z_if_eq C 251 dL_fetches_176 (by decide) (fun c_176 => ?_) (fun c_176 => ?_)
  · exact absurd c_176 (by decide)
  refine z_iconst C (v := 0) dL_fetches_179 (by decide) ?_
  refine z_istore C dL_fetches_180 (by decide) ?_
  dsimp only [List.set]
  refine z_iload C dL_fetches_182 rfl ?_
  refine z_iconst C (v := 4) dL_fetches_184 (by decide) ?_
  refine z_icmp_ge C 211 dL_fetches_185 (by decide) (fun c_185 => ?_) (fun c_185 => ?_)
  · exact absurd c_185 (by decide)
  refine z_aload_n C dL_fetches_188 rfl ?_
  refine z_iconst C (v := 4) dL_fetches_189 (by decide) ?_
  refine z_iload C dL_fetches_190 rfl ?_
  refine z_imul C dL_fetches_192 ?_
  refine z_iload C dL_fetches_193 rfl ?_
  refine z_iadd C dL_fetches_195 ?_
  refine z_iload C dL_fetches_196 rfl ?_
  refine z_iload C dL_fetches_198 rfl ?_
  refine z_iload C dL_fetches_200 rfl ?_
  refine z_imul C dL_fetches_202 ?_
  refine z_iadd C dL_fetches_203 ?_
  rw [show (0 : Int32) * nI ss = nI (0 * ss) from pk_mul 0 ss, nI_add, Nat.zero_mul, Nat.add_zero]
  refine s_18 C (j := 4 * ni + 0) (ix4 ni 0) (by omega) dL_fetches_204 ?_
  refine z_iinc C (v := 1) dL_fetches_205 rfl (by decide) (by decide) ?_
  dsimp only [List.set]
  refine z_goto C 182 dL_fetches_208 (by decide) ?_
  rw [show (0 : Int32) + 1 = 1 by decide]
  refine z_iload C dL_fetches_182 rfl ?_
  refine z_iconst C (v := 4) dL_fetches_184 (by decide) ?_
  refine z_icmp_ge C 211 dL_fetches_185 (by decide) (fun c_185 => ?_) (fun c_185 => ?_)
  · exact absurd c_185 (by decide)
  refine z_aload_n C dL_fetches_188 rfl ?_
  refine z_iconst C (v := 4) dL_fetches_189 (by decide) ?_
  refine z_iload C dL_fetches_190 rfl ?_
  refine z_imul C dL_fetches_192 ?_
  refine z_iload C dL_fetches_193 rfl ?_
  refine z_iadd C dL_fetches_195 ?_
  refine z_iload C dL_fetches_196 rfl ?_
  refine z_iload C dL_fetches_198 rfl ?_
  refine z_iload C dL_fetches_200 rfl ?_
  refine z_imul C dL_fetches_202 ?_
  refine z_iadd C dL_fetches_203 ?_
  rw [show (1 : Int32) * nI ss = nI (1 * ss) from pk_mul 1 ss, nI_add, Nat.one_mul]
  refine s_18 C (j := 4 * ni + 1) (ix4 ni 1) (by omega) dL_fetches_204 ?_
  refine z_iinc C (v := 1) dL_fetches_205 rfl (by decide) (by decide) ?_
  dsimp only [List.set]
  refine z_goto C 182 dL_fetches_208 (by decide) ?_
  rw [show (1 : Int32) + 1 = 2 by decide]
  refine z_iload C dL_fetches_182 rfl ?_
  refine z_iconst C (v := 4) dL_fetches_184 (by decide) ?_
  refine z_icmp_ge C 211 dL_fetches_185 (by decide) (fun c_185 => ?_) (fun c_185 => ?_)
  · exact absurd c_185 (by decide)
  refine z_aload_n C dL_fetches_188 rfl ?_
  refine z_iconst C (v := 4) dL_fetches_189 (by decide) ?_
  refine z_iload C dL_fetches_190 rfl ?_
  refine z_imul C dL_fetches_192 ?_
  refine z_iload C dL_fetches_193 rfl ?_
  refine z_iadd C dL_fetches_195 ?_
  refine z_iload C dL_fetches_196 rfl ?_
  refine z_iload C dL_fetches_198 rfl ?_
  refine z_iload C dL_fetches_200 rfl ?_
  refine z_imul C dL_fetches_202 ?_
  refine z_iadd C dL_fetches_203 ?_
  rw [show (2 : Int32) * nI ss = nI (2 * ss) from pk_mul 2 ss, nI_add]
  refine s_18 C (j := 4 * ni + 2) (ix4 ni 2) (by omega) dL_fetches_204 ?_
  refine z_iinc C (v := 1) dL_fetches_205 rfl (by decide) (by decide) ?_
  dsimp only [List.set]
  refine z_goto C 182 dL_fetches_208 (by decide) ?_
  rw [show (2 : Int32) + 1 = 3 by decide]
  refine z_iload C dL_fetches_182 rfl ?_
  refine z_iconst C (v := 4) dL_fetches_184 (by decide) ?_
  refine z_icmp_ge C 211 dL_fetches_185 (by decide) (fun c_185 => ?_) (fun c_185 => ?_)
  · exact absurd c_185 (by decide)
  refine z_aload_n C dL_fetches_188 rfl ?_
  refine z_iconst C (v := 4) dL_fetches_189 (by decide) ?_
  refine z_iload C dL_fetches_190 rfl ?_
  refine z_imul C dL_fetches_192 ?_
  refine z_iload C dL_fetches_193 rfl ?_
  refine z_iadd C dL_fetches_195 ?_
  refine z_iload C dL_fetches_196 rfl ?_
  refine z_iload C dL_fetches_198 rfl ?_
  refine z_iload C dL_fetches_200 rfl ?_
  refine z_imul C dL_fetches_202 ?_
  refine z_iadd C dL_fetches_203 ?_
  rw [show (3 : Int32) * nI ss = nI (3 * ss) from pk_mul 3 ss, nI_add]
  refine s_18 C (j := 4 * ni + 3) (ix4 ni 3) (by omega) dL_fetches_204 ?_
  refine z_iinc C (v := 1) dL_fetches_205 rfl (by decide) (by decide) ?_
  dsimp only [List.set]
  refine z_goto C 182 dL_fetches_208 (by decide) ?_
  rw [show (3 : Int32) + 1 = 4 by decide]
  refine z_iload C dL_fetches_182 rfl ?_
  refine z_iconst C (v := 4) dL_fetches_184 (by decide) ?_
  refine z_icmp_ge C 211 dL_fetches_185 (by decide) (fun c_185 => ?_) (fun c_185 => ?_)
  rotate_left
  · exact absurd (by decide) c_185
  refine z_aload_n C dL_fetches_211 rfl ?_
  refine z_iload C dL_fetches_212 rfl ?_
  refine z_aload_n C dL_fetches_214 rfl ?_
  refine z_iload C dL_fetches_215 rfl ?_
  refine a_20 C (j := j) rfl (by omega) dL_fetches_217 ?_
  rw [up_n (by omega), up_n (by omega), up_n (by omega), up_n (by omega), e20]
  refine z_bipush C (v := 8) dL_fetches_218 (by decide) ?_
  refine z_idiv C (by decide) dL_fetches_220 ?_
  rw [div8 (by omega) (by omega)]
  refine z_bipush C (v := 32) dL_fetches_221 (by decide) ?_
  refine z_aload_n C dL_fetches_223 rfl ?_
  refine z_iload C dL_fetches_224 rfl ?_
  refine a_20 C (j := j) rfl (by omega) dL_fetches_226 ?_
  rw [up_n (by omega), up_n (by omega), up_n (by omega), up_n (by omega), e20]
  refine z_bipush C (v := 8) dL_fetches_227 (by decide) ?_
  refine z_irem C (by decide) dL_fetches_229 ?_
  rw [rem8 (by omega) (by omega)]
  refine z_imul C dL_fetches_230 ?_
  rw [show (32 : Int32) * nI w = nI (32 * w) from pk_mul 32 w]
  refine z_iadd C dL_fetches_231 ?_
  rw [nI_add]
  refine s_19 C (j := ni) rfl (by omega) dL_fetches_232 ?_
  refine z_aload_n C dL_fetches_233 rfl ?_
  refine z_iload C dL_fetches_234 rfl ?_
  refine z_dup2 C dL_fetches_236 rfl rfl ?_
  refine a_20 C (j := j) rfl (by omega) dL_fetches_237 ?_
  rw [up_n (by omega), up_n (by omega), up_n (by omega), up_n (by omega), up_n (by omega), e20]
  refine z_sipush C (v := 256) dL_fetches_238 (by decide) ?_
  refine z_iadd C dL_fetches_241 ?_
  rw [show nI (w + 8 * f) + 256 = nI (w + 8 * f + 256) from nI_add (w + 8 * f) 256]
  refine s_20 C (j := j) rfl (by omega) dL_fetches_242 ?_
  refine z_aload C dL_fetches_243 rfl ?_
  refine z_iconst C (v := 1) dL_fetches_245 (by decide) ?_
  refine z_dup2 C dL_fetches_246 rfl rfl ?_
  refine a_22 C (j := 1) (by decide) (by decide) dL_fetches_247 ?_
  rw [up_n (by omega), up_n (by omega), up_n (by omega), up_n (by omega), up_n (by omega), up_n (by omega), hI.2.1.2.1, eni]
  refine z_iconst C (v := 1) dL_fetches_248 (by decide) ?_
  refine z_iadd C dL_fetches_249 ?_
  refine s_22 C (j := 1) (by decide) (by decide) dL_fetches_250 ?_
  exact lp_f251y C hI eno hno eni hni hj hw hf1 hf2 e0 e1 e3 e20 hrd hn8 hpp hss hc1 hc2
end
section
variable {p : Program} {l : Launch} {e : Env} {R : Room} {s : State} {m : MethodId} {args : Array Value} {below : List Frame} {meth : Method} {c : Code} {D : va_G} {ad : Nat → Nat → Nat} {cy : Nat → ClassId} {A : Nat → Prop} {sa : Nat → Nat} {cells slots : Nat} {σ : St}
set_option maxRecDepth 100000 in
set_option maxHeartbeats 4000000 in
theorem lp_f135n (C : Cx p l s m args meth c cL_fetches "FretSchoolLaw" 13 (some .boolean) D ad cy A sa) {T : Nat} {σ : St} (hI : LInv T σ) {no ni : Nat} (eno : σ 0 0 8 = nI no) (hno : no ≤ 20) (eni : σ 0 0 7 = nI ni) (hni : ni ≤ 8) {x y : Int32} {j : Nat} (hj : j < no) (h3 : σ 0 0 9 < σ 16 j 2 ∨ ¬ σ 16 j 3 = 0 ∨ ¬ σ 0 0 7 < 8) {o8 o9 o10 o11 o12 : Option Value} (hc1 : cells + 35 ≤ 45) (hc2 : slots + 210 ≤ 6 * 45) : Z p l e (rmD 10 45) s m args below meth c D ad cy A 13 (cells) (slots) (MQ below (va_Qi (fun r σ' => r = 1 ∧ LInv T σ') (Bw D ad cy) A) args s 45 (6 * 45) A) (σ) [some (.ref (ad 0 0)), some (.ref (ad 18 0)), some (.ref (ad 19 0)), some (.ref (ad 20 0)), some (.ref (ad 22 0)), some (.int x), some (.int y), some (.int (nI j)), o8, o9, o10, o11, o12] 135 [.int 0] := by
  refine z_istore C dL_fetches_135 (by decide) ?_
  dsimp only [List.set]
  refine z_iload C dL_fetches_137 rfl ?_
  refine z_if_eq C 149 dL_fetches_139 (by decide) (fun c_139 => ?_) (fun c_139 => ?_)
  rotate_left
  · exact absurd rfl c_139
  refine z_ldc C (v := (-1000003)) wd443 dL_fetches_149 ?_
  refine z_istore C dL_fetches_151 (by decide) ?_
  dsimp only [List.set]
  refine z_iload C dL_fetches_153 rfl ?_
  refine z_bipush C (v := 20) dL_fetches_155 (by decide) ?_
  refine z_csi C (As := [_, _]) (c_L_low (k := 20) rfl (by omega) (by omega)) okL_low wd447 (rok (by decide) (by decide)) ⟨by show _ ≤ 45; omega, by show _ ≤ 6 * (45); omega⟩ rfl (Nat.le_of_ble_eq_true rfl) dL_fetches_157 ?_
  rintro _ _ ⟨rfl, rfl⟩
  have hpp : lowN y 20 < 20 := lowN_lt (by omega)
  generalize lowN y 20 = pp at hpp ⊢
  refine z_istore C dL_fetches_160 (by decide) ?_
  dsimp only [List.set]
  refine z_iload C dL_fetches_162 rfl ?_
  refine z_bipush C (v := 6) dL_fetches_164 (by decide) ?_
  refine z_ishr C dL_fetches_166 ?_
  refine z_bipush C (v := 8) dL_fetches_167 (by decide) ?_
  refine z_csi C (As := [_, _]) (c_L_low (k := 8) rfl (by omega) (by omega)) okL_low wd447 (rok (by decide) (by decide)) ⟨by show _ ≤ 45; omega, by show _ ≤ 6 * (45); omega⟩ rfl (Nat.le_of_ble_eq_true rfl) dL_fetches_169 ?_
  rintro _ _ ⟨rfl, rfl⟩
  have hss : lowN (y >>> (6 &&& 31)) 8 < 8 := lowN_lt (by omega)
  generalize lowN (y >>> (6 &&& 31)) 8 = ss at hss ⊢
  refine z_istore C dL_fetches_172 (by decide) ?_
  dsimp only [List.set]
  refine z_iload C dL_fetches_174 rfl ?_
  refine z_if_eq C 251 dL_fetches_176 (by decide) (fun c_176 => ?_) (fun c_176 => ?_)
  rotate_left
  · exact absurd rfl c_176
  exact lp_f251n C hI eno hno eni hni hj h3 hpp hss hc1 hc2
end
section
variable {p : Program} {l : Launch} {e : Env} {R : Room} {s : State} {m : MethodId} {args : Array Value} {below : List Frame} {meth : Method} {c : Code} {D : va_G} {ad : Nat → Nat → Nat} {cy : Nat → ClassId} {A : Nat → Prop} {sa : Nat → Nat} {cells slots : Nat} {σ : St}
set_option maxRecDepth 100000 in
set_option maxHeartbeats 4000000 in
theorem lp_f98 (C : Cx p l s m args meth c cL_fetches "FretSchoolLaw" 13 (some .boolean) D ad cy A sa) {T : Nat} {σ : St} (hI : LInv T σ) {no ni : Nat} (eno : σ 0 0 8 = nI no) (hno : no ≤ 20) (eni : σ 0 0 7 = nI ni) (hni : ni ≤ 8) {x y : Int32} {j : Nat} (hj : j < no) {o8 o9 o10 o11 o12 : Option Value} (hc1 : cells + 36 ≤ 45) (hc2 : slots + 216 ≤ 6 * 45) : Z p l e (rmD 10 45) s m args below meth c D ad cy A 13 (cells) (slots) (MQ below (va_Qi (fun r σ' => r = 1 ∧ LInv T σ') (Bw D ad cy) A) args s 45 (6 * 45) A) (σ) [some (.ref (ad 0 0)), some (.ref (ad 18 0)), some (.ref (ad 19 0)), some (.ref (ad 20 0)), some (.ref (ad 22 0)), some (.int x), some (.int y), some (.int (nI j)), o8, o9, o10, o11, o12] 98 [] := by
  obtain ⟨w, f, d, hw, hf1, hf2, hd2, e0, e1, e3, e20⟩ := hI.2.2.2.2.2.2.2.1 j (by omega) (by rw [eno]; exact nI_lt hj (by omega))
  refine z_aload_n C dL_fetches_98 rfl ?_
  refine z_iload C dL_fetches_99 rfl ?_
  refine a_20 C (j := j) rfl (by omega) dL_fetches_101 ?_
  rw [e20]
  refine z_sipush C (v := 256) dL_fetches_102 (by decide) ?_
  refine z_icmp_ge C 134 dL_fetches_105 (by decide) (fun c_105 => ?_) (fun c_105 => ?_)
  · have hd : d ≠ 0 := by rw [show (256 : Int32) = nI 256 from rfl, nI_leI (by omega) (by omega)] at c_105; omega
    refine z_iconst C (v := 0) dL_fetches_134 (by decide) ?_
    exact lp_f135n C hI eno hno eni hni hj (Or.inr (Or.inl (by rw [e3, nI_ne0' (by omega)]; omega))) (by omega) (by omega)
  · have hd : d = 0 := by rw [show (256 : Int32) = nI 256 from rfl, nI_leI (by omega) (by omega)] at c_105; omega
    refine z_aload_n C dL_fetches_108 rfl ?_
    refine z_iload C dL_fetches_109 rfl ?_
    refine z_csw C (As := [_, _]) (c_L_ready hI.1) wd506 wd13 wd507 hd_ready wd505 (rok (by decide) (by decide)) ⟨by show _ ≤ 45; omega, by show _ ≤ 6 * (45); omega⟩ rfl (Nat.le_of_ble_eq_true rfl) dL_fetches_111 ?_
    intro r111 τ111 h111
    obtain ⟨rfl, rfl⟩ := h111.yes (K_ready_z (by rw [eno]; exact ok_nI hj (by omega)))
    rw [ix_nI (by omega)]
    refine z_aload C dL_fetches_114 rfl ?_
    refine z_iconst C (v := 3) dL_fetches_116 (by decide) ?_
    refine a_22 C (j := 3) (by decide) (by decide) dL_fetches_117 ?_
    rw [hI.2.1.2.2.2]
    refine z_icmp_gt C 134 dL_fetches_118 (by decide) (fun c_118 => ?_) (fun c_118 => ?_)
    · refine z_iconst C (v := 0) dL_fetches_134 (by decide) ?_
      exact lp_f135n C hI eno hno eni hni hj (Or.inl c_118) (by omega) (by omega)
    · refine z_aload C dL_fetches_121 rfl ?_
      refine z_iconst C (v := 1) dL_fetches_123 (by decide) ?_
      refine a_22 C (j := 1) (by decide) (by decide) dL_fetches_124 ?_
      rw [hI.2.1.2.1, eni]
      refine z_bipush C (v := 8) dL_fetches_125 (by decide) ?_
      refine z_icmp_ge C 134 dL_fetches_127 (by decide) (fun c_127 => ?_) (fun c_127 => ?_)
      · have h8n : 8 ≤ ni := by rw [show (8 : Int32) = nI 8 from rfl, nI_leI (by omega) (by omega)] at c_127; exact c_127
        refine z_iconst C (v := 0) dL_fetches_134 (by decide) ?_
        exact lp_f135n C hI eno hno eni hni hj (Or.inr (Or.inr (by rw [eni]; exact nI_nlt (a := ni) (b := 8) h8n (by omega)))) (by omega) (by omega)
      · have h8n : ni < 8 := by rw [show (8 : Int32) = nI 8 from rfl, nI_leI (by omega) (by omega)] at c_127; omega
        refine z_iconst C (v := 1) dL_fetches_130 (by decide) ?_
        refine z_goto C 135 dL_fetches_131 (by decide) ?_
        exact lp_f135y C hI eno hno eni hni hj hw hf1 hf2 e0 e1 (by rw [e3, hd]; rfl) (by rw [e20, hd, Nat.mul_zero, Nat.add_zero]) c_118 h8n (by omega) (by omega)
end
section
variable {p : Program} {l : Launch} {e : Env} {R : Room} {s : State} {m : MethodId} {args : Array Value} {below : List Frame} {meth : Method} {c : Code} {D : va_G} {ad : Nat → Nat → Nat} {cy : Nat → ClassId} {A : Nat → Prop} {sa : Nat → Nat} {cells slots : Nat} {σ : St}
set_option maxRecDepth 100000 in
set_option maxHeartbeats 4000000 in
theorem lp_f52 (C : Cx p l s m args meth c cL_fetches "FretSchoolLaw" 13 (some .boolean) D ad cy A sa) {T : Nat} {σ : St} (hI : LInv T σ) {no ni : Nat} (eno : σ 0 0 8 = nI no) (hno : no ≤ 20) (eni : σ 0 0 7 = nI ni) (hni : ni ≤ 8) {x y : Int32} {o9 o10 o11 o12 : Option Value} (hc1 : cells + 36 ≤ 45) (hc2 : slots + 216 ≤ 6 * 45) : ∀ (f9 k j : Nat), j < no → k ≤ no → no < k + f9 → Z p l e (rmD 10 45) s m args below meth c D ad cy A 13 (cells) (slots) (MQ below (va_Qi (fun r σ' => r = 1 ∧ LInv T σ') (Bw D ad cy) A) args s 45 (6 * 45) A) (σ) [some (.ref (ad 0 0)), some (.ref (ad 18 0)), some (.ref (ad 19 0)), some (.ref (ad 20 0)), some (.ref (ad 22 0)), some (.int x), some (.int y), some (.int (nI j)), some (.int (nI k)), o9, o10, o11, o12] 52 [] := by
  intro f9
  induction f9 with
  | zero => intro k j _ _ h; exact absurd h (by omega)
  | succ f9 ih =>
    intro k j hj hk hfu
    obtain ⟨w, f, d, hw, hf1, hf2, hd2, e0, e1, e3, e20⟩ := hI.2.2.2.2.2.2.2.1 j (by omega) (by rw [eno]; exact nI_lt hj (by omega))
    refine z_iload C dL_fetches_52 rfl ?_
    refine z_aload C dL_fetches_54 rfl ?_
    refine z_iconst C (v := 2) dL_fetches_56 (by decide) ?_
    refine a_22 C (j := 2) (by decide) (by decide) dL_fetches_57 ?_
    rw [hI.2.1.2.2.1, eno]
    refine z_icmp_ge C 98 dL_fetches_58 (by decide) (fun c_58 => ?_) (fun c_58 => ?_)
    · exact lp_f98 C hI eno hno eni hni hj (by omega) (by omega)
    · have hkn : k < no := by rw [nI_leI (by omega) (by omega)] at c_58; omega
      refine z_aload_n C dL_fetches_61 rfl ?_
      refine z_iload C dL_fetches_62 rfl ?_
      refine a_20 C (j := j) rfl (by omega) dL_fetches_64 ?_
      rw [e20]
      refine z_sipush C (v := 255) dL_fetches_65 (by decide) ?_
      refine z_icmp_le C 98 dL_fetches_68 (by decide) (fun c_68 => ?_) (fun c_68 => ?_)
      · exact lp_f98 C hI eno hno eni hni hj (by omega) (by omega)
      · skip
        refine z_iload C dL_fetches_71 rfl ?_
        refine z_iconst C (v := 1) dL_fetches_73 (by decide) ?_
        refine z_iadd C dL_fetches_74 ?_
        rw [nI_1]
        refine z_aload C dL_fetches_75 rfl ?_
        refine z_iconst C (v := 2) dL_fetches_77 (by decide) ?_
        refine a_22 C (j := 2) (by decide) (by decide) dL_fetches_78 ?_
        rw [hI.2.1.2.2.1, eno]
        refine z_icmp_ne C 86 dL_fetches_79 (by decide) (fun c_79 => ?_) (fun c_79 => ?_)
        · have hjn : j + 1 < no := by rw [nI_eq (by omega) (by omega)] at c_79; omega
          refine z_iload C dL_fetches_86 rfl ?_
          refine z_iconst C (v := 1) dL_fetches_88 (by decide) ?_
          refine z_iadd C dL_fetches_89 ?_
          rw [nI_1]
          refine z_istore C dL_fetches_90 (by decide) ?_
          dsimp only [List.set]
          refine z_iinc C (v := 1) dL_fetches_92 rfl (by decide) (by decide) ?_
          dsimp only [List.set]
          refine z_goto C 52 dL_fetches_95 (by decide) ?_
          rw [nI_1 k]
          exact ih (k + 1) (j + 1) (by omega) (by omega) (by omega)
        · skip
          refine z_iconst C (v := 0) dL_fetches_82 (by decide) ?_
          refine z_goto C 90 dL_fetches_83 (by decide) ?_
          refine z_istore C dL_fetches_90 (by decide) ?_
          dsimp only [List.set]
          refine z_iinc C (v := 1) dL_fetches_92 rfl (by decide) (by decide) ?_
          dsimp only [List.set]
          refine z_goto C 52 dL_fetches_95 (by decide) ?_
          rw [nI_1]
          exact ih (k + 1) 0 (by omega) (by omega) (by omega)
end
set_option maxRecDepth 100000 in
set_option maxHeartbeats 4000000 in
theorem c_L_fetches {l : Launch} {D : va_G} {ad : Nat → Nat → Nat} {cy : Nat → ClassId} {A : Nat → Prop} {sa : Nat → Nat} {σ : St} {T : Nat} (hI : LInv T σ) {x y : Int32} : MK l D ad cy A sa yL_fetches cL_fetches 13 (some .boolean) 10 45 σ [.ref (ad 0 0), .ref (ad 18 0), .ref (ad 19 0), .ref (ad 20 0), .ref (ad 22 0), .int x, .int y] (fun r σ' => r = 1 ∧ LInv T σ') := by
  refine MK.mk "FretSchoolLaw" (by decide) rfl (Nat.le_of_ble_eq_true rfl) rfl ?_
  intro p e s m args below meth c C
  change Z _ _ _ _ _ _ _ _ _ _ _ _ _ _ _ _ _ _ _ [some (.ref (ad 0 0)), some (.ref (ad 18 0)), some (.ref (ad 19 0)), some (.ref (ad 20 0)), some (.ref (ad 22 0)), some (.int x), some (.int y), none, none, none, none, none, none] 0 []
  obtain ⟨no, hno, eno⟩ := hI.1.2.2.1
  obtain ⟨ni, hni, eni⟩ := hI.1.2.1
  refine z_aload C dL_fetches_0 rfl ?_
  refine z_iconst C (v := 2) dL_fetches_2 (by decide) ?_
  refine a_22 C (j := 2) (by decide) (by decide) dL_fetches_3 ?_
  rw [hI.2.1.2.2.1, eno]
  refine z_if_ne C 38 dL_fetches_4 (by decide) (fun c_4 => ?_) (fun c_4 => ?_)
  · have hn0 : 0 < no := by rw [nI_ne0' (by omega)] at c_4; omega
    refine z_iload C dL_fetches_38 rfl ?_
    refine z_aload C dL_fetches_40 rfl ?_
    refine z_iconst C (v := 2) dL_fetches_42 (by decide) ?_
    refine a_22 C (j := 2) (by decide) (by decide) dL_fetches_43 ?_
    rw [hI.2.1.2.2.1, eno]
    refine z_csi C (As := [_, _]) (c_L_low (k := no) rfl (by omega) (by omega)) okL_low wd447 (rok (by decide) (by decide)) ⟨by show _ ≤ 45; omega, by show _ ≤ 6 * (45); omega⟩ rfl (Nat.le_of_ble_eq_true rfl) dL_fetches_44 ?_
    rintro _ _ ⟨rfl, rfl⟩
    refine z_istore C dL_fetches_47 (by decide) ?_
    dsimp only [List.set]
    refine z_iconst C (v := 0) dL_fetches_49 (by decide) ?_
    refine z_istore C dL_fetches_50 (by decide) ?_
    dsimp only [List.set]
    exact lp_f52 C hI eno hno eni hni (by omega) (by omega) (no + 1) 0 _ (lowN_lt (by omega)) (by omega) (by omega)
  · have hn0 : no = 0 := by rw [nI_ne0' (by omega)] at c_4; exact c_4
    refine z_aload_n C dL_fetches_7 rfl ?_
    refine z_iconst C (v := 0) dL_fetches_8 (by decide) ?_
    refine z_iconst C (v := 0) dL_fetches_9 (by decide) ?_
    refine z_iconst C (v := 0) dL_fetches_10 (by decide) ?_
    refine z_iconst C (v := 0) dL_fetches_11 (by decide) ?_
    refine z_bipush C (v := 61) dL_fetches_12 (by decide) ?_
    refine z_csw C (As := [_, _, _, _, _, _]) (c_L_fetch hI.1) wd551 wd13 wd552 hd_fetch wd550 (rok (by decide) (by decide)) ⟨by show _ ≤ 45; omega, by show _ ≤ 6 * (45); omega⟩ rfl (Nat.le_of_ble_eq_true rfl) dL_fetches_14 ?_
    intro r14 τ14 h14
    obtain ⟨rfl, rfl⟩ := h14.not (j := 0) (K_fetch_1 (by rw [eno, hn0]; exact no_nI (j := 0) (Nat.le_refl _) (by omega))) rfl
    refine z_ldc C (v := (-1000001)) wd367 dL_fetches_17 ?_
    refine z_icmp_ne C 36 dL_fetches_19 (by decide) (fun c_19 => ?_) (fun c_19 => ?_)
    · exact absurd rfl c_19
    refine z_aload_n C dL_fetches_22 rfl ?_
    refine z_iconst C (v := 0) dL_fetches_23 (by decide) ?_
    refine z_csw C (As := [_, _]) (c_L_ready hI.1) wd506 wd13 wd507 hd_ready wd505 (rok (by decide) (by decide)) ⟨by show _ ≤ 45; omega, by show _ ≤ 6 * (45); omega⟩ rfl (Nat.le_of_ble_eq_true rfl) dL_fetches_24 ?_
    intro r24 τ24 h24
    obtain ⟨rfl, rfl⟩ := h24.not (j := 0) (K_ready_1 (by rw [eno, hn0]; exact no_nI (j := 0) (Nat.le_refl _) (by omega))) rfl
    refine z_ldc C (v := (-1000001)) wd367 dL_fetches_27 ?_
    refine z_icmp_ne C 36 dL_fetches_29 (by decide) (fun c_29 => ?_) (fun c_29 => ?_)
    · exact absurd rfl c_29
    refine z_iconst C (v := 1) dL_fetches_32 (by decide) ?_
    refine z_goto C 37 dL_fetches_33 (by decide) ?_
    refine z_widen (mc := 45) (ms := 6 * 45) (by first | decide | omega) (by first | decide | omega) ?_
    refine z_zret C dL_fetches_37 (by first | exact Or.inl rfl | exact Or.inr rfl | assumption) ?_
    exact ⟨rfl, hI⟩
