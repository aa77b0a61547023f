/-! THE LAW'S OWN METHODS: isSo -/
theorem b_or0' {m : Int} (hm : 0 ≤ m ∧ m < 256) : iI m ||| iI 0 = iI m := b_or0 hm
theorem bcN_sb {a t : Int} (ha : 0 ≤ a ∧ a < 128) (ht : 0 ≤ t ∧ t < 7) (h : bt a t ≠ 1) : bcN (sb a t) = bcN a + 1 := by
  obtain ⟨x, rfl⟩ := Int.eq_ofNat_of_zero_le ha.1
  obtain ⟨y, rfl⟩ := Int.eq_ofNat_of_zero_le ht.1
  have key : ∀ x : Nat, x < 128 → ∀ y : Nat, y < 7 → bt (x : Int) (y : Int) ≠ 1 → bcN (sb (x : Int) (y : Int)) = bcN (x : Int) + 1 := by decide +kernel
  exact key x (by omega) y (by omega) h
def tgC (σ : St) (w j : Int) : Prop := isB σ 0 w j ≠ 1 ∧ σ (TR 0 w) j + lpP σ j = wOP σ w
def tgp (σ : St) (w i : Int) : Int := FI (fun a j => if isB σ 0 w j ≠ 1 ∧ σ (TR 0 w) j + lpP σ j = wOP σ w then sb a j else a) 0 i
theorem tgp_s {σ : St} {w i : Int} (h : 0 ≤ i) : tgp σ w (i + 1) = if isB σ 0 w i ≠ 1 ∧ σ (TR 0 w) i + lpP σ i = wOP σ w then sb (tgp σ w i) i else tgp σ w i := FI_s h
theorem tgP_p (σ : St) (w : Int) : tgP σ w = tgp σ w (σ (TB 0) 1) := rfl
def tQ (σ : St) (i : Int) : Int := FI (fun a w => a + bcN (tgP σ w)) 0 i
theorem tQ_s {σ : St} {i : Int} (h : 0 ≤ i) : tQ σ (i + 1) = tQ σ i + bcN (tgP σ i) := FI_s h
theorem tPP_p (σ : St) : tPP σ = tQ σ (σ (TB 0) 0) := rfl
theorem bt_hi0 {a t : Int} (h : 0 ≤ a ∧ a < p2 t) : bt a t = 0 := by
  unfold bt
  rw [Int.ediv_eq_zero_of_lt h.1 h.2]
  rfl
theorem p2_s {t : Int} (ht : 0 ≤ t ∧ t < 7) : p2 (t + 1) = 2 * p2 t ∧ 1 ≤ p2 t ∧ p2 t ≤ 64 := by
  obtain ⟨y, rfl⟩ := Int.eq_ofNat_of_zero_le ht.1
  have key : ∀ y : Nat, y < 7 → p2 ((y : Int) + 1) = 2 * p2 (y : Int) ∧ 1 ≤ p2 (y : Int) ∧ p2 (y : Int) ≤ 64 := by decide +kernel
  exact key y (by omega)
/-- one task more of a worker's tight ones -/
theorem tg_step {σ : St} {w t se x2 : Int} (ht : 0 ≤ t ∧ t < 7) (hse : se = tgp σ w t) (hb : 0 ≤ se ∧ se < p2 t) (hx : (x2 = 0 ∧ ¬ tgC σ w t) ∨ (x2 = p2 t ∧ tgC σ w t)) : iI se ||| iI x2 = iI (tgp σ w (t + 1)) ∧ (0 ≤ tgp σ w (t + 1) ∧ tgp σ w (t + 1) < p2 (t + 1)) ∧ bcN (tgp σ w (t + 1)) = bcN se + bt (tgp σ w (t + 1)) t := by
  obtain ⟨p1, p2', p3⟩ := p2_s ht
  have h0 := bt_hi0 hb
  rw [tgp_s ht.1, ← hse]
  rcases hx with ⟨h1, h2⟩ | ⟨h1, h2⟩
  · have h2' : ¬ (isB σ 0 w t ≠ 1 ∧ σ (TR 0 w) t + lpP σ t = wOP σ w) := h2
    rw [if_neg h2', h1]
    exact ⟨b_or0 (by omega), by omega, by omega⟩
  · have h3 := sb_lt (m := se) (k := t) (n := t + 1) (by omega) (by omega) (by omega)
    have h2' : isB σ 0 w t ≠ 1 ∧ σ (TR 0 w) t + lpP σ t = wOP σ w := h2
    rw [if_pos h2', h1]
    refine ⟨b_or (by omega) (by omega), h3, ?_⟩
    rw [bcN_sb (by omega) ht (by omega), bt_sb (by omega) (by omega) (by omega), if_pos rfl]
theorem PS.tr {σ σ1 σ2 : St} (h : PS σ σ1) (h2 : PS σ1 σ2) : PS σ σ2 := ⟨h2.1, fun q k a => (h2.2 q k a).trans (h.2 q k a)⟩
theorem LW.of_tr {σ σ1 : St} (hL : LW σ) (h : PS σ σ1) : LW σ1 := PS.lw hL h
set_option maxHeartbeats 4000000 in
set_option maxRecDepth 100000 in
theorem k_L_isSo (E0 : EV) {ad : Int → Nat} {σ : St} (hL : LW σ) (had : ad (-1) = 0) : MGN E0 yL_isSo wsL_isSo 8 196 1 7 ad σ [.ref (ad 0), .ref (ad 79), .ref (ad 80), .ref (ad 81)] (PI (fun z σ' => z = 1 ∧ LW σ')) := by
  refine MGN.of (cc := cL_isSo) (maxL := 12) (ret := (some .boolean)) (own := RL) [some (.ref (ad 0)), some (.ref (ad 79)), some (.ref (ad 80)), some (.ref (ad 81)), none, none, none, none, none, none, none, none] (by decide +kernel) rfl rfl (Nat.le_of_ble_eq_true rfl) rfl rfl (fun E X hr => ?_)
  refine g_rg (fun hR0 => ?_)
  obtain ⟨hC, h80, h5, h790, h791, h81, hc80⟩ := id hL
  have hT0 := hC.1 0 (by omega) (by omega)
  obtain ⟨hm, hn, hti, htc⟩ := id hT0
  refine g_iconst X dL_isSo_0 ?_
  refine g_istore4 X dL_isSo_1 (by decide) (by first | exact Or.inl rfl | exact Or.inr ⟨_, rfl, rfl⟩) ?_
  refine g_iconst X dL_isSo_3 ?_
  refine g_istore5 X dL_isSo_4 (by decide) (by first | exact Or.inl rfl | exact Or.inr ⟨_, rfl, rfl⟩) ?_
  refine g_iconst X dL_isSo_6 ?_
  refine g_istore6 X dL_isSo_7 (by decide) (by first | exact Or.inl rfl | exact Or.inr ⟨_, rfl, rfl⟩) ?_
  refine g_iconst X dL_isSo_9 ?_
  refine g_istore7 X dL_isSo_10 (by decide) (by first | exact Or.inl rfl | exact Or.inr ⟨_, rfl, rfl⟩) ?_
  have L12 : ∀ (n12 : Nat) (w pa ti : Int) (σa : St) (u8 u9 u10 u11 : Option Value), (σ (TB 0) 0 - w).toNat < n12 → (0 ≤ w ∧ w ≤ σ (TB 0) 0) → (PS σ σa) → (pa = oP σ 0 (σ (TB 0) 1) w) → (ti = tQ σ w) → ((0 ≤ pa ∧ pa ≤ 7 * w) ∧ 0 ≤ ti ∧ ti ≤ 7 * w) → WG E ad 12 σa 12 [some (.ref (ad 0)), some (.ref (ad 79)), some (.ref (ad 80)), some (.ref (ad 81)), some (.int (iI 1)), some (.int (iI pa)), some (.int (iI ti)), some (.int (iI w)), u8, u9, u10, u11] [] := by
    intro n12
    induction n12 with
    | zero => intro w pa ti σa u8 u9 u10 u11 hn; exact absurd hn (Nat.not_lt_zero _)
    | succ n12 ih12 =>
      intro w pa ti σa u8 u9 u10 u11 hn12 hw hP hpa hti2 hbd
      refine g_rg (fun hRL12 => ?_)
      have c790 := hP.2 79 0 (by omega)
      have c791 := hP.2 79 1 (by omega)
      refine g_iload7 X dL_isSo_12 ?_
      refine g_aload1 X dL_isSo_14 ?_
      refine g_iconst X dL_isSo_15 ?_
      refine g_iald X (ia_79 (by omega)) dL_isSo_16 ?_
      refine g_icmp_ge (tgt := 230) X (by first | exact hRL12 _ _ | exact hR0 _ _ | assumption | (unfold InR; omega)) (by first | exact hRL12 _ _ | exact hR0 _ _ | assumption | (unfold InR; omega)) dL_isSo_17 (by decide) (fun h17 => ?_) (fun h17 => ?_)
      · skip
        have hwm : w = σ (TB 0) 0 := by omega
        rw [hwm] at hpa hti2 hbd
        refine g_iload4 X dL_isSo_230 ?_
        refine g_if_eq (tgt := 334) X (by first | exact hRL12 _ _ | exact hR0 _ _ | assumption | (unfold InR; omega)) dL_isSo_232 (by decide) (fun h232 => ?_) (fun h232 => ?_)
        · skip
          exact absurd h232 (by decide) -- CLOSED
        · skip
          refine g_aload0 X dL_isSo_235 ?_
          refine g_aload1 X dL_isSo_236 ?_
          refine g_aload2 X dL_isSo_237 ?_
          refine g_aload3 X dL_isSo_238 ?_
          refine g_NI4 X hr.nw hr.rm (k_L_isProved E (hP.lw hL) had) gL_isSo_L_isProved rfl (by decide +kernel) (by decide) (Nat.le_of_ble_eq_true rfl) dL_isSo_239 (fun z239 σ239 hz239 hp239 => ?_)
          replace X := X.add hr.rm
          replace hr := RtN.add (k := 1) (n := 7) (mc := 0) (ms := 0) hr
          revert X hr
          generalize EA E 1 7 = E
          intro X hr
          refine g_rg (fun hR239 => ?_)
          obtain ⟨e239, P239a⟩ := hp239
          have P239 := hP.tr P239a
          refine g_if_eq (tgt := 334) X (by first | exact hR239 _ _ | exact hRL12 _ _ | exact hR0 _ _ | assumption | (unfold InR; omega)) dL_isSo_242 (by decide) (fun h242 => ?_) (fun h242 => ?_)
          · skip
            exfalso
            omega -- CLOSED
          · skip
            refine g_aload0 X dL_isSo_245 ?_
            refine g_iconst X dL_isSo_246 ?_
            refine g_I1 X (k_X6_count E P239.1 InR_0) gL_isSo_X6_count rfl (by decide +kernel) (by decide) ob_0 (Nat.le_of_ble_eq_true rfl) dL_isSo_247 (fun z247 σ247 hz247 hp247 => ?_)
            refine g_rg (fun hR247 => ?_)
            have P247 := P239.q hp247.2
            have e247 := (a_count hT0 P239 h80 hp247.1).1 rfl
            refine g_aload1 X dL_isSo_250 ?_
            refine g_iconst X dL_isSo_251 ?_
            refine g_iald X (ia_79 (by omega)) dL_isSo_252 ?_
            refine g_icmp_ne (tgt := 334) X (by first | exact hR247 _ _ | exact hR239 _ _ | exact hRL12 _ _ | exact hR0 _ _ | assumption | (unfold InR; omega)) (by first | exact hR247 _ _ | exact hR239 _ _ | exact hRL12 _ _ | exact hR0 _ _ | assumption | (unfold InR; omega)) dL_isSo_253 (by decide) (fun h253 => ?_) (fun h253 => ?_)
            · skip
              exact absurd (e247.trans ((P247.2 79 0 (by omega)).trans h790).symm) h253 -- CLOSED
            · skip
              refine g_aload0 X dL_isSo_256 ?_
              refine g_iconst X dL_isSo_257 ?_
              refine g_I1 X (k_X6_count E P247.1 (show InR 1 by unfold InR; omega)) gL_isSo_X6_count rfl (by decide +kernel) (by decide) ob_0 (Nat.le_of_ble_eq_true rfl) dL_isSo_258 (fun z258 σ258 hz258 hp258 => ?_)
              refine g_rg (fun hR258 => ?_)
              have P258 := P247.q hp258.2
              have e258 := (a_count hT0 P247 h80 hp258.1).2.1 rfl
              refine g_aload1 X dL_isSo_261 ?_
              refine g_iconst X dL_isSo_262 ?_
              refine g_iald X (ia_79 (by omega)) dL_isSo_263 ?_
              refine g_icmp_ne (tgt := 334) X (by first | exact hR258 _ _ | exact hR247 _ _ | exact hR239 _ _ | exact hRL12 _ _ | exact hR0 _ _ | assumption | (unfold InR; omega)) (by first | exact hR258 _ _ | exact hR247 _ _ | exact hR239 _ _ | exact hRL12 _ _ | exact hR0 _ _ | assumption | (unfold InR; omega)) dL_isSo_264 (by decide) (fun h264 => ?_) (fun h264 => ?_)
              · skip
                exact absurd (e258.trans ((P258.2 79 1 (by omega)).trans h791).symm) h264 -- CLOSED
              · skip
                refine g_aload0 X dL_isSo_267 ?_
                refine g_iconst X dL_isSo_268 ?_
                refine g_I1 X (k_X6_count E P258.1 (show InR 2 by unfold InR; omega)) gL_isSo_X6_count rfl (by decide +kernel) (by decide) ob_0 (Nat.le_of_ble_eq_true rfl) dL_isSo_269 (fun z269 σ269 hz269 hp269 => ?_)
                refine g_rg (fun hR269 => ?_)
                have P269 := P258.q hp269.2
                have e269 := (a_count hT0 P258 h80 hp269.1).2.2.1 rfl
                refine g_iload5 X dL_isSo_272 ?_
                refine g_icmp_ne (tgt := 334) X (by first | exact hR269 _ _ | exact hR258 _ _ | exact hR247 _ _ | exact hR239 _ _ | exact hRL12 _ _ | exact hR0 _ _ | assumption | (unfold InR; omega)) (by first | exact hR269 _ _ | exact hR258 _ _ | exact hR247 _ _ | exact hR239 _ _ | exact hRL12 _ _ | exact hR0 _ _ | assumption | (unfold InR; omega)) dL_isSo_274 (by decide) (fun h274 => ?_) (fun h274 => ?_)
                · skip
                  exact absurd (e269.trans hpa.symm) h274 -- CLOSED
                · skip
                  refine g_aload0 X dL_isSo_277 ?_
                  refine g_iconst X dL_isSo_278 ?_
                  refine g_I1 X (k_X6_count E P269.1 (show InR 4 by unfold InR; omega)) gL_isSo_X6_count rfl (by decide +kernel) (by decide) ob_0 (Nat.le_of_ble_eq_true rfl) dL_isSo_279 (fun z279 σ279 hz279 hp279 => ?_)
                  refine g_rg (fun hR279 => ?_)
                  have P279 := P269.q hp279.2
                  have e279 := (a_count hT0 P269 h80 hp279.1).2.2.2.2.1 rfl
                  refine g_iload6 X dL_isSo_282 ?_
                  refine g_icmp_ne (tgt := 334) X (by first | exact hR279 _ _ | exact hR269 _ _ | exact hR258 _ _ | exact hR247 _ _ | exact hR239 _ _ | exact hRL12 _ _ | exact hR0 _ _ | assumption | (unfold InR; omega)) (by first | exact hR279 _ _ | exact hR269 _ _ | exact hR258 _ _ | exact hR247 _ _ | exact hR239 _ _ | exact hRL12 _ _ | exact hR0 _ _ | assumption | (unfold InR; omega)) dL_isSo_284 (by decide) (fun h284 => ?_) (fun h284 => ?_)
                  · skip
                    exact absurd (e279.trans ((tPP_p σ).trans hti2.symm)) h284 -- CLOSED
                  · skip
                    refine g_aload0 X dL_isSo_287 ?_
                    refine g_bipush X dL_isSo_288 (by decide +kernel) ?_
                    refine g_I1 X (k_X6_count E P279.1 (show InR 8 by unfold InR; omega)) gL_isSo_X6_count rfl (by decide +kernel) (by decide) ob_0 (Nat.le_of_ble_eq_true rfl) dL_isSo_290 (fun z290 σ290 hz290 hp290 => ?_)
                    refine g_rg (fun hR290 => ?_)
                    have P290 := P279.q hp290.2
                    have e290 := (a_count hT0 P279 h80 hp290.1).2.2.2.2.2.2.2.1 rfl
                    refine g_if_ne (tgt := 334) X (by first | exact hR290 _ _ | exact hR279 _ _ | exact hR269 _ _ | exact hR258 _ _ | exact hR247 _ _ | exact hR239 _ _ | exact hRL12 _ _ | exact hR0 _ _ | assumption | (unfold InR; omega)) dL_isSo_293 (by decide) (fun h293 => ?_) (fun h293 => ?_)
                    · skip
                      exact absurd e290 h293 -- CLOSED
                    · skip
                      refine g_aload0 X dL_isSo_296 ?_
                      refine g_aload1 X dL_isSo_297 ?_
                      refine g_iconst X dL_isSo_298 ?_
                      refine g_iald X (ia_79 (by omega)) dL_isSo_299 ?_
                      refine g_iconst X dL_isSo_300 ?_
                      refine g_X2 X (k_X6_costOf E P290.1 (hR290 79 0) (show InR (-1) by unfold InR; omega)) gL_isSo_X6_costOf rfl (by decide +kernel) (by decide) ob_0 (Nat.le_of_ble_eq_true rfl) dL_isSo_301 (fun z301 σ301 hz301 hp301 => ?_)
                      refine g_rg (fun hR301 => ?_)
                      have f790 := P290.2 79 0 (by omega)
                      have f791 := P290.2 79 1 (by omega)
                      have e301 := (a_cost P290 (by omega) hp301.1).2.2.2 (by omega)
                      rw [hp301.2]
                      refine g_iconst X dL_isSo_304 ?_
                      refine g_icmp_ne (tgt := 334) X (by first | exact hR301 _ _ | exact hR290 _ _ | exact hR279 _ _ | exact hR269 _ _ | exact hR258 _ _ | exact hR247 _ _ | exact hR239 _ _ | exact hRL12 _ _ | exact hR0 _ _ | assumption | (unfold InR; omega)) (by first | exact hR301 _ _ | exact hR290 _ _ | exact hR279 _ _ | exact hR269 _ _ | exact hR258 _ _ | exact hR247 _ _ | exact hR239 _ _ | exact hRL12 _ _ | exact hR0 _ _ | assumption | (unfold InR; omega)) dL_isSo_305 (by decide) (fun h305 => ?_) (fun h305 => ?_)
                      · skip
                        exact absurd e301 h305 -- CLOSED
                      · skip
                        refine g_aload0 X dL_isSo_308 ?_
                        refine g_aload1 X dL_isSo_309 ?_
                        refine g_iconst X dL_isSo_310 ?_
                        refine g_iald X (ia_79 (by omega)) dL_isSo_311 ?_
                        refine g_I1 X (k_X6_taskOf E P290.1 (hR290 79 0)) gL_isSo_X6_taskOf rfl (by decide +kernel) (by decide) ob_0 (Nat.le_of_ble_eq_true rfl) dL_isSo_312 (fun z312 σ312 hz312 hp312 => ?_)
                        refine g_rg (fun hR312 => ?_)
                        have P312 := P290.q hp312.2
                        have e312 : z312 = -1 := by rw [hp312.1, if_neg (by have h9 := P290.t.m; omega)]
                        refine g_iconst X dL_isSo_315 ?_
                        refine g_icmp_ne (tgt := 334) X (by first | exact hR312 _ _ | exact hR301 _ _ | exact hR290 _ _ | exact hR279 _ _ | exact hR269 _ _ | exact hR258 _ _ | exact hR247 _ _ | exact hR239 _ _ | exact hRL12 _ _ | exact hR0 _ _ | assumption | (unfold InR; omega)) (by first | exact hR312 _ _ | exact hR301 _ _ | exact hR290 _ _ | exact hR279 _ _ | exact hR269 _ _ | exact hR258 _ _ | exact hR247 _ _ | exact hR239 _ _ | exact hRL12 _ _ | exact hR0 _ _ | assumption | (unfold InR; omega)) dL_isSo_316 (by decide) (fun h316 => ?_) (fun h316 => ?_)
                        · skip
                          exact absurd e312 h316 -- CLOSED
                        · skip
                          refine g_aload0 X dL_isSo_319 ?_
                          refine g_aload1 X dL_isSo_320 ?_
                          refine g_iconst X dL_isSo_321 ?_
                          refine g_iald X (ia_79 (by omega)) dL_isSo_322 ?_
                          refine g_I1 X (k_X6_workerOf E P312.1 (hR312 79 1)) gL_isSo_X6_workerOf rfl (by decide +kernel) (by decide) ob_0 (Nat.le_of_ble_eq_true rfl) dL_isSo_323 (fun z323 σ323 hz323 hp323 => ?_)
                          refine g_rg (fun hR323 => ?_)
                          have P323 := P312.q hp323.2
                          have e323 : z323 = -1 := by rw [hp323.1, if_neg (by have h9 := P312.t.n; have h8 := P312.2 79 1 (by omega); omega)]
                          refine g_iconst X dL_isSo_326 ?_
                          refine g_icmp_ne (tgt := 334) X (by first | exact hR323 _ _ | exact hR312 _ _ | exact hR301 _ _ | exact hR290 _ _ | exact hR279 _ _ | exact hR269 _ _ | exact hR258 _ _ | exact hR247 _ _ | exact hR239 _ _ | exact hRL12 _ _ | exact hR0 _ _ | assumption | (unfold InR; omega)) (by first | exact hR323 _ _ | exact hR312 _ _ | exact hR301 _ _ | exact hR290 _ _ | exact hR279 _ _ | exact hR269 _ _ | exact hR258 _ _ | exact hR247 _ _ | exact hR239 _ _ | exact hRL12 _ _ | exact hR0 _ _ | assumption | (unfold InR; omega)) dL_isSo_327 (by decide) (fun h327 => ?_) (fun h327 => ?_)
                          · skip
                            exact absurd e323 h327 -- CLOSED
                          · skip
                            refine g_iconst X dL_isSo_330 ?_
                            refine g_goto (tgt := 335) X dL_isSo_331 (by decide) ?_
                            exact g_zretN X hr (fun _ _ _ => rfl) (fun _ => rfl) X.ap had (by first | exact Or.inl rfl | exact Or.inr rfl | omega) ⟨rfl, PS.lw hL P323⟩ dL_isSo_335
      · skip
        refine g_iload4 X dL_isSo_20 ?_
        refine g_if_eq (tgt := 230) X (by first | exact hRL12 _ _ | exact hR0 _ _ | assumption | (unfold InR; omega)) dL_isSo_22 (by decide) (fun h22 => ?_) (fun h22 => ?_)
        · skip
          exact absurd h22 (by decide) -- CLOSED
        · skip
          refine g_iconst X dL_isSo_25 ?_
          refine g_istore8 X dL_isSo_26 (by decide) (by first | exact Or.inl rfl | exact Or.inr ⟨_, rfl, rfl⟩) ?_
          refine g_aload0 X dL_isSo_28 ?_
          refine g_iload7 X dL_isSo_29 ?_
          refine g_iconst X dL_isSo_31 ?_
          refine g_I2 X (k_X6_workerIs E hP.1 (show InR w by unfold InR; omega) InR_0) gL_isSo_X6_workerIs rfl (by decide +kernel) (by decide) ob_0 (Nat.le_of_ble_eq_true rfl) dL_isSo_32 (fun z32 σ32 hz32 hp32 => ?_)
          refine g_rg (fun hR32 => ?_)
          have P32 := hP.q hp32.2
          have e32 := (a_is hT0 hP (x1 := w) (by omega) hp32.1).1 rfl
          refine g_istore9 X dL_isSo_35 (by decide) (by first | exact Or.inl rfl | exact Or.inr ⟨_, rfl, rfl⟩) ?_
          refine g_iconst X dL_isSo_37 ?_
          refine g_istore10 X dL_isSo_38 (by decide) (by first | exact Or.inl rfl | exact Or.inr ⟨_, rfl, rfl⟩) ?_
          have L40 : ∀ (n40 : Nat) (t pb tb se : Int) (σb : St) (v11 : Option Value), (σ (TB 0) 1 - t).toNat < n40 → (0 ≤ t ∧ t ≤ σ (TB 0) 1) → (PS σ σb) → (pb = oR σ 0 w pa t) → (se = tgp σ w t) → (0 ≤ se ∧ se < p2 t) → (tb = ti + bcN se) → ((0 ≤ pb ∧ pb ≤ 7 * w + t)) → WG E ad 12 σb 40 [some (.ref (ad 0)), some (.ref (ad 79)), some (.ref (ad 80)), some (.ref (ad 81)), some (.int (iI 1)), some (.int (iI pb)), some (.int (iI tb)), some (.int (iI w)), some (.int (iI se)), some (.int (iI z32)), some (.int (iI t)), v11] [] := by
            intro n40
            induction n40 with
            | zero => intro t pb tb se σb v11 hn; exact absurd hn (Nat.not_lt_zero _)
            | succ n40 ih40 =>
              intro t pb tb se σb v11 hn40 ht hPb hpb hse hseb htb hbd2
              refine g_rg (fun hRL40 => ?_)
              have d790 := hPb.2 79 0 (by omega)
              have d791 := hPb.2 79 1 (by omega)
              refine g_iload10 X dL_isSo_40 ?_
              refine g_aload1 X dL_isSo_42 ?_
              refine g_iconst X dL_isSo_43 ?_
              refine g_iald X (ia_79 (by omega)) dL_isSo_44 ?_
              refine g_icmp_ge (tgt := 161) X (by first | exact hRL40 _ _ | exact hR32 _ _ | exact hRL12 _ _ | exact hR0 _ _ | assumption | (unfold InR; omega)) (by first | exact hRL40 _ _ | exact hR32 _ _ | exact hRL12 _ _ | exact hR0 _ _ | assumption | (unfold InR; omega)) dL_isSo_45 (by decide) (fun h45 => ?_) (fun h45 => ?_)
              · skip
                have htn : t = σ (TB 0) 1 := by omega
                have hseP : se = tgP σ w := by rw [hse, htn]; rfl
                have hbcb := bcN_b se
                refine g_iload4 X dL_isSo_161 ?_
                refine g_if_eq (tgt := 221) X (by first | exact hRL40 _ _ | exact hR32 _ _ | exact hRL12 _ _ | exact hR0 _ _ | assumption | (unfold InR; omega)) dL_isSo_163 (by decide) (fun h163 => ?_) (fun h163 => ?_)
                · skip
                  exact absurd h163 (by decide) -- CLOSED
                · skip
                  refine g_aload0 X dL_isSo_166 ?_
                  refine g_iload7 X dL_isSo_167 ?_
                  refine g_iconst X dL_isSo_169 ?_
                  refine g_X2 X (k_X6_costOf E hPb.1 (show InR w by unfold InR; omega) (show InR (-1) by unfold InR; omega)) gL_isSo_X6_costOf rfl (by decide +kernel) (by decide) ob_0 (Nat.le_of_ble_eq_true rfl) dL_isSo_170 (fun z170 σ170 hz170 hp170 => ?_)
                  refine g_rg (fun hR170 => ?_)
                  have e170 := (a_cost hPb (by omega) hp170.1).2.1 (by omega) rfl
                  rw [hp170.2]
                  have d81 : σb 81 w = σ (TI 0) w := (hPb.2 81 w (by omega)).trans (h81 w (by omega) (by omega))
                  have hdb9 := hti w (by omega) (by omega)
                  refine g_aload3 X dL_isSo_173 ?_
                  refine g_iload7 X dL_isSo_174 ?_
                  refine g_iald X (ia_81 (by omega)) dL_isSo_176 ?_
                  refine g_icmp_ne (tgt := 221) X (by first | exact hR170 _ _ | exact hRL40 _ _ | exact hR32 _ _ | exact hRL12 _ _ | exact hR0 _ _ | assumption | (unfold InR; omega)) (by first | exact hR170 _ _ | exact hRL40 _ _ | exact hR32 _ _ | exact hRL12 _ _ | exact hR0 _ _ | assumption | (unfold InR; omega)) dL_isSo_177 (by decide) (fun h177 => ?_) (fun h177 => ?_)
                  · skip
                    exfalso
                    omega -- CLOSED
                  · skip
                    refine g_aload0 X dL_isSo_180 ?_
                    refine g_iload7 X dL_isSo_181 ?_
                    refine g_aload1 X dL_isSo_183 ?_
                    refine g_iconst X dL_isSo_184 ?_
                    refine g_iald X (ia_79 (by omega)) dL_isSo_185 ?_
                    refine g_X2 X (k_X6_costOf E hPb.1 (show InR w by unfold InR; omega) (hRL40 79 1)) gL_isSo_X6_costOf rfl (by decide +kernel) (by decide) ob_0 (Nat.le_of_ble_eq_true rfl) dL_isSo_186 (fun z186 σ186 hz186 hp186 => ?_)
                    refine g_rg (fun hR186 => ?_)
                    have e186 := (a_cost hPb (by omega) hp186.1).2.2.1 (by omega)
                    rw [hp186.2]
                    refine g_iconst X dL_isSo_189 ?_
                    refine g_icmp_ne (tgt := 221) X (by first | exact hR186 _ _ | exact hR170 _ _ | exact hRL40 _ _ | exact hR32 _ _ | exact hRL12 _ _ | exact hR0 _ _ | assumption | (unfold InR; omega)) (by first | exact hR186 _ _ | exact hR170 _ _ | exact hRL40 _ _ | exact hR32 _ _ | exact hRL12 _ _ | exact hR0 _ _ | assumption | (unfold InR; omega)) dL_isSo_190 (by decide) (fun h190 => ?_) (fun h190 => ?_)
                    · skip
                      exact absurd e186 h190 -- CLOSED
                    · skip
                      refine g_aload0 X dL_isSo_193 ?_
                      refine g_iload7 X dL_isSo_194 ?_
                      refine g_bipush X dL_isSo_196 (by decide +kernel) ?_
                      refine g_X2 X (k_X6_costOf E hPb.1 (show InR w by unfold InR; omega) (show InR (-2) by unfold InR; omega)) gL_isSo_X6_costOf rfl (by decide +kernel) (by decide) ob_0 (Nat.le_of_ble_eq_true rfl) dL_isSo_198 (fun z198 σ198 hz198 hp198 => ?_)
                      refine g_rg (fun hR198 => ?_)
                      have e198 := (a_cost hPb (by omega) hp198.1).2.2.1 (by omega)
                      rw [hp198.2]
                      refine g_iconst X dL_isSo_201 ?_
                      refine g_icmp_ne (tgt := 221) X (by first | exact hR198 _ _ | exact hR186 _ _ | exact hR170 _ _ | exact hRL40 _ _ | exact hR32 _ _ | exact hRL12 _ _ | exact hR0 _ _ | assumption | (unfold InR; omega)) (by first | exact hR198 _ _ | exact hR186 _ _ | exact hR170 _ _ | exact hRL40 _ _ | exact hR32 _ _ | exact hRL12 _ _ | exact hR0 _ _ | assumption | (unfold InR; omega)) dL_isSo_202 (by decide) (fun h202 => ?_) (fun h202 => ?_)
                      · skip
                        exact absurd e198 h202 -- CLOSED
                      · skip
                        refine g_aload0 X dL_isSo_205 ?_
                        refine g_iload7 X dL_isSo_206 ?_
                        refine g_iconst X dL_isSo_208 ?_
                        refine g_I2 X (k_X6_workerIs E hPb.1 (show InR w by unfold InR; omega) (show InR 1 by unfold InR; omega)) gL_isSo_X6_workerIs rfl (by decide +kernel) (by decide) ob_0 (Nat.le_of_ble_eq_true rfl) dL_isSo_209 (fun z209 σ209 hz209 hp209 => ?_)
                        refine g_rg (fun hR209 => ?_)
                        have P209 := hPb.q hp209.2
                        have e209 := (a_is hT0 hPb (x1 := w) (by omega) hp209.1).2.1 rfl
                        have hp2n := p2_n hT0.2.1
                        rw [htn] at hseb
                        refine g_iload8 X dL_isSo_212 ?_
                        refine g_icmp_ne (tgt := 221) X (by first | exact hR209 _ _ | exact hR198 _ _ | exact hR186 _ _ | exact hR170 _ _ | exact hRL40 _ _ | exact hR32 _ _ | exact hRL12 _ _ | exact hR0 _ _ | assumption | (unfold InR; omega)) (by first | exact hR209 _ _ | exact hR198 _ _ | exact hR186 _ _ | exact hR170 _ _ | exact hRL40 _ _ | exact hR32 _ _ | exact hRL12 _ _ | exact hR0 _ _ | assumption | (unfold InR; omega)) dL_isSo_214 (by decide) (fun h214 => ?_) (fun h214 => ?_)
                        · skip
                          exact absurd (e209.trans hseP.symm) h214 -- CLOSED
                        · skip
                          refine g_iconst X dL_isSo_217 ?_
                          refine g_goto (tgt := 222) X dL_isSo_218 (by decide) ?_
                          refine g_istore4 X dL_isSo_222 (by decide) (by first | exact Or.inl rfl | exact Or.inr ⟨_, rfl, rfl⟩) ?_
                          refine g_iinc7 X dL_isSo_224 (by decide) (by first | exact Or.inl rfl | exact Or.inr ⟨_, rfl, rfl⟩) ?_
                          refine g_goto (tgt := 12) X dL_isSo_227 (by decide) ?_
                          refine ih12 _ _ _ _ _ _ _ _ (by omega) ?_ ?_ ?_ ?_ ?_
                          · omega
                          · exact P209
                          · rw [hpb, htn, hpa]
                            exact (oP_s hw.1).symm
                          · rw [htb, hti2, hseP]
                            exact (tQ_s hw.1).symm
                          · omega
              · skip
                have hcj : σb 80 (7 * w + t) = σ (TR 0 w) t := (hPb.2 80 _ (by omega)).trans (hc80 w t (by omega) (by omega) (by omega) (by omega))
                have hcjb := htc w t (by omega) (by omega) (by omega) (by omega)
                have hlj := lpP_b hT0 (j := t) (by omega)
                have hib := isB_c (σ := σ) (w := w) (j := t) (by omega)
                refine g_aload2 X dL_isSo_48 ?_
                refine g_bipush X dL_isSo_49 (by decide +kernel) ?_
                refine g_iload7 X dL_isSo_51 ?_
                refine g_imul X dL_isSo_53 ?_
                refine g_iload10 X dL_isSo_54 ?_
                refine g_iadd X dL_isSo_56 ?_
                refine g_iald X (ia_80 (by omega)) dL_isSo_57 ?_
                rw [hcj]
                refine g_istore11 X dL_isSo_58 (by decide) (by first | exact Or.inl rfl | exact Or.inr ⟨_, rfl, rfl⟩) ?_
                refine g_iload5 X dL_isSo_60 ?_
                have J72 : ∀ (x : Int), (((σ (TR 0 w) t) = -1 ∧ x = 0) ∨ ((σ (TR 0 w) t) ≠ -1 ∧ x = 1)) → WG E ad 12 σb 72 [some (.ref (ad 0)), some (.ref (ad 79)), some (.ref (ad 80)), some (.ref (ad 81)), some (.int (iI 1)), some (.int (iI pb)), some (.int (iI tb)), some (.int (iI w)), some (.int (iI se)), some (.int (iI z32)), some (.int (iI t)), some (.int (iI (σ (TR 0 w) t)))] [.int (iI x), .int (iI pb)] := by
                  intro x hx
                  refine g_iadd X dL_isSo_72 ?_
                  refine g_istore5 X dL_isSo_73 (by decide) (by first | exact Or.inl rfl | exact Or.inr ⟨_, rfl, rfl⟩) ?_
                  refine g_iload8 X dL_isSo_75 ?_
                  have J105 : ∀ (x2 : Int) (σc : St), (PS σ σc) → ((x2 = 0 ∧ ¬ tgC σ w t) ∨ (x2 = p2 t ∧ tgC σ w t)) → WG E ad 12 σc 105 [some (.ref (ad 0)), some (.ref (ad 79)), some (.ref (ad 80)), some (.ref (ad 81)), some (.int (iI 1)), some (.int (iI (pb + x))), some (.int (iI tb)), some (.int (iI w)), some (.int (iI se)), some (.int (iI z32)), some (.int (iI t)), some (.int (iI (σ (TR 0 w) t)))] [.int (iI x2), .int (iI se)] := by
                    intro x2 σc Pc hx2
                    have hst := tg_step (σ := σ) (w := w) (t := t) (by omega) hse hseb hx2
                    have hp2t := p2_s (t := t) (by omega)
                    refine g_ior X hst.1 dL_isSo_105 ?_
                    refine g_istore8 X dL_isSo_106 (by decide) (by first | exact Or.inl rfl | exact Or.inr ⟨_, rfl, rfl⟩) ?_
                    obtain ⟨s2, hs2⟩ : ∃ s2, s2 = tgp σ w (t + 1) := ⟨_, rfl⟩
                    have hst1 := hst.2.1
                    have hst2 := hst.2.2
                    rw [← hs2] at hst1 hst2 ⊢
                    have hsh0 : 0 ≤ s2 / p2 t := Int.ediv_nonneg (by omega) (by omega)
                    have hsh1 : s2 / p2 t ≤ s2 := Int.ediv_le_self _ (by omega)
                    have hbt9 : bt s2 t = s2 / p2 t % 2 := rfl
                    refine g_iload6 X dL_isSo_108 ?_
                    refine g_iload8 X dL_isSo_110 ?_
                    refine g_iload10 X dL_isSo_112 ?_
                    refine g_ishr X (b_shr (by omega) (by omega)) dL_isSo_114 ?_
                    refine g_iconst X dL_isSo_115 ?_
                    refine g_iand X (b_and1 (by omega)) dL_isSo_116 ?_
                    refine g_iadd X dL_isSo_117 ?_
                    refine g_istore6 X dL_isSo_118 (by decide) (by first | exact Or.inl rfl | exact Or.inr ⟨_, rfl, rfl⟩) ?_
                    refine g_iload4 X dL_isSo_120 ?_
                    refine g_if_eq (tgt := 152) X (by first | exact hRL40 _ _ | exact hR32 _ _ | exact hRL12 _ _ | exact hR0 _ _ | assumption | (unfold InR; omega)) dL_isSo_122 (by decide) (fun h122 => ?_) (fun h122 => ?_)
                    · skip
                      exact absurd h122 (by decide) -- CLOSED
                    · skip
                      refine g_aload0 X dL_isSo_125 ?_
                      refine g_iload7 X dL_isSo_126 ?_
                      refine g_iload10 X dL_isSo_128 ?_
                      refine g_X2 X (k_X6_costOf E Pc.1 (show InR w by unfold InR; omega) (show InR t by unfold InR; omega)) gL_isSo_X6_costOf rfl (by decide +kernel) (by decide) ob_0 (Nat.le_of_ble_eq_true rfl) dL_isSo_130 (fun z130 σ130 hz130 hp130 => ?_)
                      refine g_rg (fun hR130 => ?_)
                      have e130 := (a_cost Pc (by omega) hp130.1).1 (by omega) (by omega)
                      rw [hp130.2]
                      have J145 : ∀ (x3 : Int), (x3 = z130) → WG E ad 12 σc 145 [some (.ref (ad 0)), some (.ref (ad 79)), some (.ref (ad 80)), some (.ref (ad 81)), some (.int (iI 1)), some (.int (iI (pb + x))), some (.int (iI (tb + s2 / p2 t % 2))), some (.int (iI w)), some (.int (iI s2)), some (.int (iI z32)), some (.int (iI t)), some (.int (iI (σ (TR 0 w) t)))] [.int (iI x3), .int (iI z130)] := by
                        intro x3 hx3
                        refine g_icmp_ne (tgt := 152) X (by first | exact hR130 _ _ | exact hRL40 _ _ | exact hR32 _ _ | exact hRL12 _ _ | exact hR0 _ _ | assumption | (unfold InR; omega)) (by first | exact hR130 _ _ | exact hRL40 _ _ | exact hR32 _ _ | exact hRL12 _ _ | exact hR0 _ _ | assumption | (unfold InR; omega)) dL_isSo_145 (by decide) (fun h145 => ?_) (fun h145 => ?_)
                        · skip
                          exfalso
                          omega -- CLOSED
                        · skip
                          refine g_iconst X dL_isSo_148 ?_
                          refine g_goto (tgt := 153) X dL_isSo_149 (by decide) ?_
                          refine g_istore4 X dL_isSo_153 (by decide) (by first | exact Or.inl rfl | exact Or.inr ⟨_, rfl, rfl⟩) ?_
                          refine g_iinc10 X dL_isSo_155 (by decide) (by first | exact Or.inl rfl | exact Or.inr ⟨_, rfl, rfl⟩) ?_
                          refine g_goto (tgt := 40) X dL_isSo_158 (by decide) ?_
                          refine ih40 _ _ _ _ _ _ (by omega) ?_ ?_ ?_ ?_ ?_ ?_ ?_
                          · omega
                          · exact Pc
                          · rw [oR_s ht.1]
                            by_cases g9 : σ (TR 0 w) t = -1
                            · rw [if_pos g9]; omega
                            · rw [if_neg g9]; omega
                          · exact hs2
                          · exact hst1
                          · rw [hst2]; omega
                          · omega
                      refine g_iload11 X dL_isSo_133 ?_
                      refine g_if_ge (tgt := 143) X (by first | exact hR130 _ _ | exact hRL40 _ _ | exact hR32 _ _ | exact hRL12 _ _ | exact hR0 _ _ | assumption | (unfold InR; omega)) dL_isSo_135 (by decide) (fun h135 => ?_) (fun h135 => ?_)
                      · skip
                        refine g_iload11 X dL_isSo_143 ?_
                        exact J145 _ (by omega)
                      · skip
                        refine g_bipush X dL_isSo_138 (by decide +kernel) ?_
                        refine g_goto (tgt := 145) X dL_isSo_140 (by decide) ?_
                        exact J145 _ (by omega)
                  refine g_iload11 X dL_isSo_77 ?_
                  refine g_if_lt (tgt := 104) X (by first | exact hRL40 _ _ | exact hR32 _ _ | exact hRL12 _ _ | exact hR0 _ _ | assumption | (unfold InR; omega)) dL_isSo_79 (by decide) (fun h79 => ?_) (fun h79 => ?_)
                  · skip
                    refine g_iconst X dL_isSo_104 ?_
                    first
                    | exact J105 _ _ P88 (Or.inr ⟨rfl, ⟨fun g9 => by have g8 := hib.mp g9; omega, by omega⟩⟩)
                    | exact J105 _ _ P88 (Or.inl ⟨rfl, fun g9 => h94 (by have g8 := g9.2; omega)⟩)
                    | exact J105 _ _ hPb (Or.inl ⟨rfl, fun g9 => g9.1 (hib.mpr (by omega))⟩)
                  · skip
                    refine g_iload11 X dL_isSo_82 ?_
                    refine g_aload0 X dL_isSo_84 ?_
                    refine g_iload10 X dL_isSo_85 ?_
                    refine g_iconst X dL_isSo_87 ?_
                    refine g_I2 X (k_X6_price E hPb.1 (show InR t by unfold InR; omega) InR_0) gL_isSo_X6_price rfl (by decide +kernel) (by decide) ob_0 (Nat.le_of_ble_eq_true rfl) dL_isSo_88 (fun z88 σ88 hz88 hp88 => ?_)
                    refine g_rg (fun hR88 => ?_)
                    have P88 := hPb.q hp88.2
                    have e88 := (a_price hT0 hPb hp88.1).1 (by omega) rfl
                    refine g_iadd X dL_isSo_91 ?_
                    refine g_iload9 X dL_isSo_92 ?_
                    refine g_icmp_ne (tgt := 104) X (by first | exact hR88 _ _ | exact hRL40 _ _ | exact hR32 _ _ | exact hRL12 _ _ | exact hR0 _ _ | assumption | (unfold InR; omega)) (by first | exact hR88 _ _ | exact hRL40 _ _ | exact hR32 _ _ | exact hRL12 _ _ | exact hR0 _ _ | assumption | (unfold InR; omega)) dL_isSo_94 (by decide) (fun h94 => ?_) (fun h94 => ?_)
                    · skip
                      refine g_iconst X dL_isSo_104 ?_
                      first
                      | exact J105 _ _ P88 (Or.inr ⟨rfl, ⟨fun g9 => by have g8 := hib.mp g9; omega, by omega⟩⟩)
                      | exact J105 _ _ P88 (Or.inl ⟨rfl, fun g9 => h94 (by have g8 := g9.2; omega)⟩)
                      | exact J105 _ _ hPb (Or.inl ⟨rfl, fun g9 => g9.1 (hib.mpr (by omega))⟩)
                    · skip
                      refine g_iconst X dL_isSo_97 ?_
                      refine g_iload10 X dL_isSo_98 ?_
                      refine g_ishl X (b_shl (by omega)) dL_isSo_100 ?_
                      refine g_goto (tgt := 105) X dL_isSo_101 (by decide) ?_
                      first
                      | exact J105 _ _ P88 (Or.inr ⟨rfl, ⟨fun g9 => by have g8 := hib.mp g9; omega, by omega⟩⟩)
                      | exact J105 _ _ P88 (Or.inl ⟨rfl, fun g9 => h94 (by have g8 := g9.2; omega)⟩)
                      | exact J105 _ _ hPb (Or.inl ⟨rfl, fun g9 => g9.1 (hib.mpr (by omega))⟩)
                refine g_iload11 X dL_isSo_62 ?_
                refine g_if_ge (tgt := 71) X (by first | exact hRL40 _ _ | exact hR32 _ _ | exact hRL12 _ _ | exact hR0 _ _ | assumption | (unfold InR; omega)) dL_isSo_64 (by decide) (fun h64 => ?_) (fun h64 => ?_)
                · skip
                  refine g_iconst X dL_isSo_71 ?_
                  exact J72 _ (by omega)
                · skip
                  refine g_iconst X dL_isSo_67 ?_
                  refine g_goto (tgt := 72) X dL_isSo_68 (by decide) ?_
                  exact J72 _ (by omega)
          refine L40 _ _ _ _ _ _ _ (Nat.lt_succ_self _) ?_ ?_ ?_ ?_ ?_ ?_ ?_
          · omega
          · exact P32
          · rfl
          · rfl
          · exact ⟨by omega, by decide⟩
          · show ti = ti + bcN 0
            rw [show bcN 0 = 0 by decide]; omega
          · omega
  refine L12 _ _ _ _ _ _ _ _ _ (Nat.lt_succ_self _) ?_ ?_ ?_ ?_ ?_
  · omega
  · exact PS.rf hL
  · rfl
  · rfl
  · omega

