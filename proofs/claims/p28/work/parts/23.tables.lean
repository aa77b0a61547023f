/-! THE LAW'S OWN METHODS: low, tables -/
section NAMED
variable {E : EV} {ad : Int → Nat} {cc : ByteArray} {nL : Nat} {own : String} {Ts : List Cond} {fr lo : Nat} {σ : St} {pc : Nat} {lv : List (Option Value)} {st : List Value}
theorem g_X0 (X : Cx E ad cc nL own Ts fr lo) {y : MethodName} {ws ws' : List Cond} {fr' lo' maxL idx : Nat} {bytes : ByteArray} {ret : Option FieldType} {C : String} {q : Int} {f : Int} {g : St} (hM : MGE E y ws fr' lo' ad σ [.ref (ad q)] (PF f g)) (hG : GoodIn Ts (wsV own idx C y ws)) (hw : ws = Cond.code y bytes maxL ret :: ws') (hd : y.cls = C ∧ y.cls ≠ "java/lang/invoke/MethodHandle" ∧ y.cls ≠ "java/lang/invoke/VarHandle" ∧ (parseMethodDescriptor y.desc).map (fun d => d.parameters.length) = some 0) (hR : fr' + 1 ≤ fr ∧ 8 + (maxL + 11) + lo' ≤ lo) (hO : Ob q C) (hcat : (st.map fun v => v.category).sum ≤ 8) (hdg : decode cc pc = .ok (.invokevirtual idx, 3)) (kk : ∀ (z : Int) (σ' : St), InR z → (z = f ∧ σ' = g) → WG E ad nL σ' (pc + 3) lv (.int (iI z) :: st)) : WG E ad nL σ pc lv (.ref (ad q) :: st) :=
  g_F0 X hM hG hw hd hR hO hcat hdg (fun h => kk f g h ⟨rfl, rfl⟩)
theorem g_X1 (X : Cx E ad cc nL own Ts fr lo) {y : MethodName} {ws ws' : List Cond} {fr' lo' maxL idx : Nat} {bytes : ByteArray} {ret : Option FieldType} {C : String} {q : Int} {a1 : Value} {f : Int} {g : St} (hM : MGE E y ws fr' lo' ad σ [.ref (ad q), a1] (PF f g)) (hG : GoodIn Ts (wsV own idx C y ws)) (hw : ws = Cond.code y bytes maxL ret :: ws') (hd : y.cls = C ∧ y.cls ≠ "java/lang/invoke/MethodHandle" ∧ y.cls ≠ "java/lang/invoke/VarHandle" ∧ (parseMethodDescriptor y.desc).map (fun d => d.parameters.length) = some 1) (hR : fr' + 1 ≤ fr ∧ 8 + (maxL + 11) + lo' ≤ lo) (hO : Ob q C) (hcat : (st.map fun v => v.category).sum ≤ 8) (hdg : decode cc pc = .ok (.invokevirtual idx, 3)) (kk : ∀ (z : Int) (σ' : St), InR z → (z = f ∧ σ' = g) → WG E ad nL σ' (pc + 3) lv (.int (iI z) :: st)) : WG E ad nL σ pc lv (a1 :: .ref (ad q) :: st) :=
  g_F1 X hM hG hw hd hR hO hcat hdg (fun h => kk f g h ⟨rfl, rfl⟩)
theorem g_X2 (X : Cx E ad cc nL own Ts fr lo) {y : MethodName} {ws ws' : List Cond} {fr' lo' maxL idx : Nat} {bytes : ByteArray} {ret : Option FieldType} {C : String} {q : Int} {a1 a2 : Value} {f : Int} {g : St} (hM : MGE E y ws fr' lo' ad σ [.ref (ad q), a1, a2] (PF f g)) (hG : GoodIn Ts (wsV own idx C y ws)) (hw : ws = Cond.code y bytes maxL ret :: ws') (hd : y.cls = C ∧ y.cls ≠ "java/lang/invoke/MethodHandle" ∧ y.cls ≠ "java/lang/invoke/VarHandle" ∧ (parseMethodDescriptor y.desc).map (fun d => d.parameters.length) = some 2) (hR : fr' + 1 ≤ fr ∧ 8 + (maxL + 11) + lo' ≤ lo) (hO : Ob q C) (hcat : (st.map fun v => v.category).sum ≤ 8) (hdg : decode cc pc = .ok (.invokevirtual idx, 3)) (kk : ∀ (z : Int) (σ' : St), InR z → (z = f ∧ σ' = g) → WG E ad nL σ' (pc + 3) lv (.int (iI z) :: st)) : WG E ad nL σ pc lv (a2 :: a1 :: .ref (ad q) :: st) :=
  g_F2 X hM hG hw hd hR hO hcat hdg (fun h => kk f g h ⟨rfl, rfl⟩)
theorem g_X3 (X : Cx E ad cc nL own Ts fr lo) {y : MethodName} {ws ws' : List Cond} {fr' lo' maxL idx : Nat} {bytes : ByteArray} {ret : Option FieldType} {C : String} {q : Int} {a1 a2 a3 : Value} {f : Int} {g : St} (hM : MGE E y ws fr' lo' ad σ [.ref (ad q), a1, a2, a3] (PF f g)) (hG : GoodIn Ts (wsV own idx C y ws)) (hw : ws = Cond.code y bytes maxL ret :: ws') (hd : y.cls = C ∧ y.cls ≠ "java/lang/invoke/MethodHandle" ∧ y.cls ≠ "java/lang/invoke/VarHandle" ∧ (parseMethodDescriptor y.desc).map (fun d => d.parameters.length) = some 3) (hR : fr' + 1 ≤ fr ∧ 8 + (maxL + 11) + lo' ≤ lo) (hO : Ob q C) (hcat : (st.map fun v => v.category).sum ≤ 8) (hdg : decode cc pc = .ok (.invokevirtual idx, 3)) (kk : ∀ (z : Int) (σ' : St), InR z → (z = f ∧ σ' = g) → WG E ad nL σ' (pc + 3) lv (.int (iI z) :: st)) : WG E ad nL σ pc lv (a3 :: a2 :: a1 :: .ref (ad q) :: st) :=
  g_F3 X hM hG hw hd hR hO hcat hdg (fun h => kk f g h ⟨rfl, rfl⟩)
end NAMED
/-- a worker's row of the law's costs is barred up to t, the worker's own cost is x -/
def lwW (σ : St) (m x t : Int) : St := fun q k => if q = 80 ∧ 7 * m ≤ k ∧ k < 7 * m + t then -1 else if q = 81 ∧ k = m then x else σ q k
/-- a task's column is barred up to w -/
def lwT (σ : St) (n w : Int) : St := fun q k => if q = 80 ∧ 0 ≤ k ∧ k < 7 * w ∧ k % 7 = n then -1 else σ q k
/-- a worker is gone: of the costs below a, of the own costs below b -/
def lwD (σ : St) (m d a b : Int) : St := fun q k => if q = 79 ∧ k = 0 then m - 1 else if q = 80 ∧ 7 * d ≤ k ∧ k < a then σ 80 (k + 7) else if q = 81 ∧ d ≤ k ∧ k < b then σ 81 (k + 1) else σ q k
/-- a task is gone: of the places below a -/
def lwE (σ : St) (n d a : Int) : St := fun q k => if q = 79 ∧ k = 1 then n - 1 else if q = 80 ∧ 0 ≤ k ∧ k < a ∧ d ≤ k % 7 ∧ k % 7 < 6 then σ 80 (k + 1) else σ q k
set_option maxHeartbeats 4000000 in
set_option maxRecDepth 100000 in
theorem k_L_low (E0 : EV) {ad : Int → Nat} {σ : St} {v n : Int} (hn : 1 ≤ n ∧ n ≤ 10000000) : MGE E0 yL_low wsL_low 0 0 ad σ [.int (iI v), .int (iI n)] (PI (fun z σ' => (0 ≤ z ∧ z < n) ∧ σ' = σ)) := by
  refine MGE.of (cc := cL_low) (maxL := 2) (ret := (some .int)) (own := RL) [some (.int (iI v)), some (.int (iI n))] (by decide +kernel) rfl rfl (Nat.le_of_ble_eq_true rfl) rfl rfl (fun E X hr => ?_)
  refine g_rg (fun hR0 => ?_)
  obtain ⟨u, hu, hub⟩ := and_max v
  refine g_iload0 X dL_low_0 ?_
  refine g_ldc X (z := 2147483647) (by decide +kernel) rfl dL_low_1 ?_
  
  refine g_iand X hu dL_low_3 ?_
  refine g_iload1 X dL_low_4 ?_
  refine g_irem X (by unfold InR; omega) (by unfold InR; omega) (by omega) (by omega) dL_low_5 ?_
  have hz0 : 0 ≤ u % n := Int.emod_nonneg _ (by omega)
  have hz1 : u % n < n := Int.emod_lt_of_pos _ (by omega)
  exact g_iret X hr (by first | exact hR0 _ _ | assumption | (unfold InR; omega)) ⟨⟨hz0, hz1⟩, rfl⟩ dL_low_6

set_option maxHeartbeats 4000000 in
set_option maxRecDepth 100000 in
theorem k_L_tables (E0 : EV) {ad : Int → Nat} {σ : St} {way y : Int} (hL : LW σ) (hway : 0 ≤ way ∧ way ≤ 3) (hy : 0 ≤ y ∧ y < 10000000) : MGE E0 yL_tables wsL_tables 3 65 ad σ [.ref (ad 0), .ref (ad 79), .ref (ad 80), .ref (ad 81), .int (iI way), .int (iI y)] (PI (fun z σ' => z = 1 ∧ LW σ')) := by
  refine MGE.of (cc := cL_tables) (maxL := 8) (ret := (some .boolean)) (own := RL) [some (.ref (ad 0)), some (.ref (ad 79)), some (.ref (ad 80)), some (.ref (ad 81)), some (.int (iI way)), some (.int (iI y)), none, none] (by decide +kernel) rfl rfl (Nat.le_of_ble_eq_true rfl) rfl rfl (fun E X hr => ?_)
  refine g_rg (fun hR0 => ?_)
  obtain ⟨hC, h80, h5, h790, h791, h81, hc80⟩ := id hL
  have hT0 := hC.1 0 (by omega) (by omega)
  obtain ⟨hm, hn, hti, htc⟩ := id hT0
  refine g_iload4 X dL_tables_0 ?_
  refine g_if_ne (tgt := 112) X (by first | exact hR0 _ _ | assumption | (unfold InR; omega)) dL_tables_2 (by decide) (fun h2 => ?_) (fun h2 => ?_)
  · skip
    refine g_iload4 X dL_tables_112 ?_
    refine g_iconst X dL_tables_114 ?_
    refine g_icmp_ne (tgt := 180) X (by first | exact hR0 _ _ | assumption | (unfold InR; omega)) (by first | exact hR0 _ _ | assumption | (unfold InR; omega)) dL_tables_115 (by decide) (fun h115 => ?_) (fun h115 => ?_)
    · skip
      refine g_iload4 X dL_tables_180 ?_
      refine g_iconst X dL_tables_182 ?_
      refine g_icmp_ne (tgt := 298) X (by first | exact hR0 _ _ | assumption | (unfold InR; omega)) (by first | exact hR0 _ _ | assumption | (unfold InR; omega)) dL_tables_183 (by decide) (fun h183 => ?_) (fun h183 => ?_)
      · skip
        refine g_aload1 X dL_tables_298 ?_
        refine g_iconst X dL_tables_299 ?_
        refine g_iald X (ia_79 (by omega)) dL_tables_300 ?_
        refine g_if_ne (tgt := 319) X (by first | exact hR0 _ _ | assumption | (unfold InR; omega)) dL_tables_301 (by decide) (fun h301 => ?_) (fun h301 => ?_)
        · skip
          refine g_iload5 X dL_tables_319 ?_
          refine g_aload1 X dL_tables_321 ?_
          refine g_iconst X dL_tables_322 ?_
          refine g_iald X (ia_79 (by omega)) dL_tables_323 ?_
          refine g_irem X (by unfold InR; omega) (by unfold InR; omega) (by omega) (by omega) dL_tables_324 ?_
          have hd0 : 0 ≤ y % σ 79 1 := Int.emod_nonneg _ (by omega)
          have hd1 : y % σ 79 1 < σ 79 1 := Int.emod_lt_of_pos _ (by omega)
          obtain ⟨d, hd⟩ : ∃ d, d = y % σ 79 1 := ⟨_, rfl⟩
          rw [← hd] at hd0 hd1 ⊢
          refine g_istore6 X dL_tables_325 (by decide) (by first | exact Or.inl rfl | exact Or.inr ⟨_, rfl, rfl⟩) ?_
          refine g_aload1 X dL_tables_327 ?_
          refine g_iconst X dL_tables_328 ?_
          refine g_dup2 X dL_tables_329 rfl rfl ?_
          refine g_iald X (ia_79 (by omega)) dL_tables_330 ?_
          refine g_iconst X dL_tables_331 ?_
          refine g_isub X dL_tables_332 ?_
          refine g_iast X (ia_79 (by omega)) (by first | exact hR0 _ _ | assumption | (unfold InR; omega)) dL_tables_333 ?_
          refine g_rg (fun hR333 => ?_)
          refine g_iconst X dL_tables_334 ?_
          refine g_istore7 X dL_tables_335 (by decide) (by first | exact Or.inl rfl | exact Or.inr ⟨_, rfl, rfl⟩) ?_
          have L337 : ∀ (n337 : Nat) (a : Int) (σ1 : St), (49 - a).toNat < n337 → (0 ≤ a ∧ a ≤ 49) → (σ1 = lwE σ (σ 79 1) d a) → WG E ad 8 σ1 337 [some (.ref (ad 0)), some (.ref (ad 79)), some (.ref (ad 80)), some (.ref (ad 81)), some (.int (iI way)), some (.int (iI y)), some (.int (iI d)), some (.int (iI a))] [] := by
            intro n337
            induction n337 with
            | zero => intro a σ1 hn; exact absurd hn (Nat.not_lt_zero _)
            | succ n337 ih337 =>
              intro a σ1 hn337 ha hs
              refine g_rg (fun hRL337 => ?_)
              have e8 : ∀ k, a ≤ k → σ1 80 k = σ 80 k := fun k g => by rw [hs]; unfold lwE; rw [if_neg (by omega), if_neg (by omega)]
              refine g_iload7 X dL_tables_337 ?_
              refine g_bipush X dL_tables_339 (by decide +kernel) ?_
              refine g_icmp_ge (tgt := 387) X (by first | exact hRL337 _ _ | exact hR333 _ _ | exact hR0 _ _ | assumption | (unfold InR; omega)) (by first | exact hRL337 _ _ | exact hR333 _ _ | exact hR0 _ _ | assumption | (unfold InR; omega)) dL_tables_341 (by decide) (fun h341 => ?_) (fun h341 => ?_)
              · skip
                have hb6 : a = 49 := by omega
                have f2 : ∀ q k, σ1 q k = lwE σ (σ (TB 0) 1) d 49 q k := fun q k => by rw [hs, hb6, h791]
                have c2 : ∀ q k, q < 79 → σ1 q k = σ q k := fun q k a => by rw [f2]; unfold lwE; rw [if_neg (by omega), if_neg (by omega)]
                have hC2 := hC.hi c2
                have hm2 : σ1 (TB 0) 1 = σ (TB 0) 1 := c2 _ _ (by unfold TB; omega)
                have hL2 := L_dropT (σ1 := σ1) (d0 := d) hL (by omega) c2 (by rw [f2]; unfold lwE; rw [if_neg (by omega), if_neg (by omega)]) (by rw [f2]; unfold lwE; rw [if_pos ⟨rfl, rfl⟩]) (fun w => by rw [f2]; unfold lwE; rw [if_neg (by omega), if_neg (by omega)]) (fun w j a b c e => by
                  rw [f2]; unfold lwE; rw [if_neg (by omega)]
                  by_cases g : d ≤ j
                  · rw [if_pos (by omega), if_pos g, show 7 * w + j + 1 = 7 * w + (j + 1) by omega]
                  · rw [if_neg (by omega), if_neg g])
                refine g_aload0 X dL_tables_387 ?_
                refine g_iload6 X dL_tables_388 ?_
                refine g_X1 X (k_X6_dropTask E hC2 (show InR d by unfold InR; omega)) gL_tables_X6_dropTask rfl (by decide +kernel) (by decide) ob_0 (Nat.le_of_ble_eq_true rfl) dL_tables_390 (fun z390 σ390 hz390 hp390 => ?_)
                refine g_rg (fun hR390 => ?_)
                rw [if_pos (show 0 ≤ d ∧ d < σ1 (TB 0) 1 by omega), if_pos (show 0 ≤ d ∧ d < σ1 (TB 0) 1 by omega)] at hp390
                obtain ⟨e390, s390⟩ := hp390
                rw [← s390] at hL2
                have e79 : σ390 79 1 = σ1 (TB 0) 1 - 1 := by
                  rw [s390, o_rmT (by rw [(kpL hL c2).2.2.2.1]; omega) (by omega) (by omega), (kpL hL c2).2.2.2.2.2.2.2 79 1 (by omega), f2]
                  unfold lwE
                  rw [if_pos ⟨rfl, rfl⟩, hm2]
                refine g_aload1 X dL_tables_393 ?_
                refine g_iconst X dL_tables_394 ?_
                refine g_iald X (ia_79 (by omega)) dL_tables_395 ?_
                refine g_icmp_ne (tgt := 403) X (by first | exact hR390 _ _ | exact hRL337 _ _ | exact hR333 _ _ | exact hR0 _ _ | assumption | (unfold InR; omega)) (by first | exact hR390 _ _ | exact hRL337 _ _ | exact hR333 _ _ | exact hR0 _ _ | assumption | (unfold InR; omega)) dL_tables_396 (by decide) (fun h396 => ?_) (fun h396 => ?_)
                · skip
                  exfalso
                  rw [e390, e79] at h396
                  omega -- CLOSED
                · skip
                  refine g_iconst X dL_tables_399 ?_
                  refine g_goto (tgt := 404) X dL_tables_400 (by decide) ?_
                  exact g_zret X hr (by first | exact Or.inl rfl | exact Or.inr rfl | omega) ⟨rfl, hL2⟩ dL_tables_404
              · skip
                refine g_aload2 X dL_tables_344 ?_
                refine g_iload7 X dL_tables_345 ?_
                refine g_iload7 X dL_tables_347 ?_
                refine g_bipush X dL_tables_349 (by decide +kernel) ?_
                refine g_irem X (by first | omega | (unfold InR; omega)) (by unfold InR; omega) (by omega) (by omega) dL_tables_351 ?_
                refine g_iload6 X dL_tables_352 ?_
                refine g_icmp_lt (tgt := 376) X (by first | exact hRL337 _ _ | exact hR333 _ _ | exact hR0 _ _ | assumption | (unfold InR; omega)) (by first | exact hRL337 _ _ | exact hR333 _ _ | exact hR0 _ _ | assumption | (unfold InR; omega)) dL_tables_354 (by decide) (fun h354 => ?_) (fun h354 => ?_)
                · skip
                  have e9 := e8 a (Int.le_refl _)
                  refine g_aload2 X dL_tables_376 ?_
                  refine g_iload7 X dL_tables_377 ?_
                  refine g_iald X (ia_80 (by omega)) dL_tables_379 ?_
                  refine g_iast X (ia_80 (by omega)) (by first | exact hRL337 _ _ | exact hR333 _ _ | exact hR0 _ _ | assumption | (unfold InR; omega)) dL_tables_380 ?_
                  refine g_rg (fun hR380 => ?_)
                  refine g_iinc7 X dL_tables_381 (by decide) (by first | exact Or.inl rfl | exact Or.inr ⟨_, rfl, rfl⟩) ?_
                  refine g_goto (tgt := 337) X dL_tables_384 (by decide) ?_
                  refine ih337 _ _ (by omega) ?_ ?_
                  · omega
                  · rw [e9, hs]
                    funext q k
                    simp only [up, lwE, TB, TI, TC, TR, Int.add_zero, and_true, true_and]
                    simp only [TB, TI, TC, TR] at *
                    repeat' first | refine ite_l (fun h => ?_) (fun h => ?_) | refine ite_r (fun h => ?_) (fun h => ?_)
                    all_goals first | omega | (refine st_c ?_ ?_ <;> omega) | skip
                · skip
                  refine g_iload7 X dL_tables_357 ?_
                  refine g_bipush X dL_tables_359 (by decide +kernel) ?_
                  refine g_irem X (by first | omega | (unfold InR; omega)) (by unfold InR; omega) (by omega) (by omega) dL_tables_361 ?_
                  refine g_bipush X dL_tables_362 (by decide +kernel) ?_
                  refine g_icmp_ge (tgt := 376) X (by first | exact hRL337 _ _ | exact hR333 _ _ | exact hR0 _ _ | assumption | (unfold InR; omega)) (by first | exact hRL337 _ _ | exact hR333 _ _ | exact hR0 _ _ | assumption | (unfold InR; omega)) dL_tables_364 (by decide) (fun h364 => ?_) (fun h364 => ?_)
                  · skip
                    have e9 := e8 a (Int.le_refl _)
                    refine g_aload2 X dL_tables_376 ?_
                    refine g_iload7 X dL_tables_377 ?_
                    refine g_iald X (ia_80 (by omega)) dL_tables_379 ?_
                    refine g_iast X (ia_80 (by omega)) (by first | exact hRL337 _ _ | exact hR333 _ _ | exact hR0 _ _ | assumption | (unfold InR; omega)) dL_tables_380 ?_
                    refine g_rg (fun hR380 => ?_)
                    refine g_iinc7 X dL_tables_381 (by decide) (by first | exact Or.inl rfl | exact Or.inr ⟨_, rfl, rfl⟩) ?_
                    refine g_goto (tgt := 337) X dL_tables_384 (by decide) ?_
                    refine ih337 _ _ (by omega) ?_ ?_
                    · omega
                    · rw [e9, hs]
                      funext q k
                      simp only [up, lwE, TB, TI, TC, TR, Int.add_zero, and_true, true_and]
                      simp only [TB, TI, TC, TR] at *
                      repeat' first | refine ite_l (fun h => ?_) (fun h => ?_) | refine ite_r (fun h => ?_) (fun h => ?_)
                      all_goals first | omega | (refine st_c ?_ ?_ <;> omega) | skip
                  · skip
                    have e9 := e8 (a + 1) (by omega)
                    refine g_aload2 X dL_tables_367 ?_
                    refine g_iload7 X dL_tables_368 ?_
                    refine g_iconst X dL_tables_370 ?_
                    refine g_iadd X dL_tables_371 ?_
                    refine g_iald X (ia_80 (by omega)) dL_tables_372 ?_
                    refine g_goto (tgt := 380) X dL_tables_373 (by decide) ?_
                    refine g_iast X (ia_80 (by omega)) (by first | exact hRL337 _ _ | exact hR333 _ _ | exact hR0 _ _ | assumption | (unfold InR; omega)) dL_tables_380 ?_
                    refine g_rg (fun hR380 => ?_)
                    refine g_iinc7 X dL_tables_381 (by decide) (by first | exact Or.inl rfl | exact Or.inr ⟨_, rfl, rfl⟩) ?_
                    refine g_goto (tgt := 337) X dL_tables_384 (by decide) ?_
                    refine ih337 _ _ (by omega) ?_ ?_
                    · omega
                    · rw [e9, hs]
                      funext q k
                      simp only [up, lwE, TB, TI, TC, TR, Int.add_zero, and_true, true_and]
                      simp only [TB, TI, TC, TR] at *
                      repeat' first | refine ite_l (fun h => ?_) (fun h => ?_) | refine ite_r (fun h => ?_) (fun h => ?_)
                      all_goals first | omega | (refine st_c ?_ ?_ <;> omega) | skip
          refine L337 _ _ _ (Nat.lt_succ_self _) ?_ ?_
          · omega
          · funext q k
            simp only [up, lwE, TB, TI, TC, TR, Int.add_zero, and_true, true_and]
            simp only [TB, TI, TC, TR] at *
            repeat' first | refine ite_l (fun h => ?_) (fun h => ?_) | refine ite_r (fun h => ?_) (fun h => ?_)
            all_goals first | omega | (refine st_c ?_ ?_ <;> omega) | skip
        · skip
          refine g_aload0 X dL_tables_304 ?_
          refine g_iconst X dL_tables_305 ?_
          refine g_X1 X (k_X6_dropTask E hC InR_0) gL_tables_X6_dropTask rfl (by decide +kernel) (by decide) ob_0 (Nat.le_of_ble_eq_true rfl) dL_tables_306 (fun z306 σ306 hz306 hp306 => ?_)
          refine g_rg (fun hR306 => ?_)
          rw [if_neg (show ¬ ((0 : Int) ≤ 0 ∧ 0 < σ (TB 0) 1) by omega), if_neg (show ¬ ((0 : Int) ≤ 0 ∧ 0 < σ (TB 0) 1) by omega)] at hp306
          obtain ⟨e306, s306⟩ := hp306
          subst s306
          refine g_iconst X dL_tables_309 ?_
          refine g_icmp_ne (tgt := 317) X (by first | exact hR306 _ _ | exact hR0 _ _ | assumption | (unfold InR; omega)) (by first | exact hR306 _ _ | exact hR0 _ _ | assumption | (unfold InR; omega)) dL_tables_310 (by decide) (fun h310 => ?_) (fun h310 => ?_)
          · skip
            exact absurd e306 h310 -- CLOSED
          · skip
            refine g_iconst X dL_tables_313 ?_
            refine g_goto (tgt := 318) X dL_tables_314 (by decide) ?_
            exact g_zret X hr (by first | exact Or.inl rfl | exact Or.inr rfl | omega) ⟨rfl, hL⟩ dL_tables_318
      · skip
        refine g_aload1 X dL_tables_186 ?_
        refine g_iconst X dL_tables_187 ?_
        refine g_iald X (ia_79 (by omega)) dL_tables_188 ?_
        refine g_if_ne (tgt := 207) X (by first | exact hR0 _ _ | assumption | (unfold InR; omega)) dL_tables_189 (by decide) (fun h189 => ?_) (fun h189 => ?_)
        · skip
          refine g_iload5 X dL_tables_207 ?_
          refine g_aload1 X dL_tables_209 ?_
          refine g_iconst X dL_tables_210 ?_
          refine g_iald X (ia_79 (by omega)) dL_tables_211 ?_
          refine g_irem X (by unfold InR; omega) (by unfold InR; omega) (by omega) (by omega) dL_tables_212 ?_
          have hd0 : 0 ≤ y % σ 79 0 := Int.emod_nonneg _ (by omega)
          have hd1 : y % σ 79 0 < σ 79 0 := Int.emod_lt_of_pos _ (by omega)
          obtain ⟨d, hd⟩ : ∃ d, d = y % σ 79 0 := ⟨_, rfl⟩
          rw [← hd] at hd0 hd1 ⊢
          refine g_istore6 X dL_tables_213 (by decide) (by first | exact Or.inl rfl | exact Or.inr ⟨_, rfl, rfl⟩) ?_
          refine g_aload1 X dL_tables_215 ?_
          refine g_iconst X dL_tables_216 ?_
          refine g_dup2 X dL_tables_217 rfl rfl ?_
          refine g_iald X (ia_79 (by omega)) dL_tables_218 ?_
          refine g_iconst X dL_tables_219 ?_
          refine g_isub X dL_tables_220 ?_
          refine g_iast X (ia_79 (by omega)) (by first | exact hR0 _ _ | assumption | (unfold InR; omega)) dL_tables_221 ?_
          refine g_rg (fun hR221 => ?_)
          refine g_bipush X dL_tables_222 (by decide +kernel) ?_
          refine g_iload6 X dL_tables_224 ?_
          refine g_imul X dL_tables_226 ?_
          refine g_istore7 X dL_tables_227 (by decide) (by first | exact Or.inl rfl | exact Or.inr ⟨_, rfl, rfl⟩) ?_
          have L229 : ∀ (n229 : Nat) (a : Int) (σ1 : St), (42 - a).toNat < n229 → (7 * d ≤ a ∧ (a ≤ 42)) → (σ1 = lwD σ (σ 79 0) d a 0) → WG E ad 8 σ1 229 [some (.ref (ad 0)), some (.ref (ad 79)), some (.ref (ad 80)), some (.ref (ad 81)), some (.int (iI way)), some (.int (iI y)), some (.int (iI d)), some (.int (iI a))] [] := by
            intro n229
            induction n229 with
            | zero => intro a σ1 hn; exact absurd hn (Nat.not_lt_zero _)
            | succ n229 ih229 =>
              intro a σ1 hn229 ha hs
              refine g_rg (fun hRL229 => ?_)
              have e0 : σ1 80 (a + 7) = σ 80 (a + 7) := by rw [hs]; unfold lwD; rw [if_neg (by omega), if_neg (by omega), if_neg (by omega)]
              refine g_iload7 X dL_tables_229 ?_
              refine g_bipush X dL_tables_231 (by decide +kernel) ?_
              refine g_icmp_ge (tgt := 253) X (by first | exact hRL229 _ _ | exact hR221 _ _ | exact hR0 _ _ | assumption | (unfold InR; omega)) (by first | exact hRL229 _ _ | exact hR221 _ _ | exact hR0 _ _ | assumption | (unfold InR; omega)) dL_tables_233 (by decide) (fun h233 => ?_) (fun h233 => ?_)
              · skip
                refine g_iload6 X dL_tables_253 ?_
                refine g_istore7 X dL_tables_255 (by decide) (by first | exact Or.inl rfl | exact Or.inr ⟨_, rfl, rfl⟩) ?_
                have L257 : ∀ (n257 : Nat) (b : Int) (σ3 : St), (6 - b).toNat < n257 → (d ≤ b ∧ b ≤ 6) → (σ3 = lwD σ (σ 79 0) d 42 b) → WG E ad 8 σ3 257 [some (.ref (ad 0)), some (.ref (ad 79)), some (.ref (ad 80)), some (.ref (ad 81)), some (.int (iI way)), some (.int (iI y)), some (.int (iI d)), some (.int (iI b))] [] := by
                  intro n257
                  induction n257 with
                  | zero => intro b σ3 hn; exact absurd hn (Nat.not_lt_zero _)
                  | succ n257 ih257 =>
                    intro b σ3 hn257 hb hs3
                    refine g_rg (fun hRL257 => ?_)
                    have f0 : σ3 81 (b + 1) = σ 81 (b + 1) := by rw [hs3]; unfold lwD; rw [if_neg (by omega), if_neg (by omega), if_neg (by omega)]
                    refine g_iload7 X dL_tables_257 ?_
                    refine g_bipush X dL_tables_259 (by decide +kernel) ?_
                    refine g_icmp_ge (tgt := 280) X (by first | exact hRL257 _ _ | exact hRL229 _ _ | exact hR221 _ _ | exact hR0 _ _ | assumption | (unfold InR; omega)) (by first | exact hRL257 _ _ | exact hRL229 _ _ | exact hR221 _ _ | exact hR0 _ _ | assumption | (unfold InR; omega)) dL_tables_261 (by decide) (fun h261 => ?_) (fun h261 => ?_)
                    · skip
                      have hb6 : b = 6 := by omega
                      have f2 : ∀ q k, σ3 q k = lwD σ (σ (TB 0) 0) d 42 6 q k := fun q k => by rw [hs3, hb6, h790]
                      have c2 : ∀ q k, q < 79 → σ3 q k = σ q k := fun q k a => by rw [f2]; unfold lwD; rw [if_neg (by omega), if_neg (by omega), if_neg (by omega)]
                      have hC2 := hC.hi c2
                      have hm2 : σ3 (TB 0) 0 = σ (TB 0) 0 := c2 _ _ (by unfold TB; omega)
                      have hL2 := L_dropW (σ1 := σ3) (d0 := d) hL (by omega) c2 (by rw [f2]; unfold lwD; rw [if_pos ⟨rfl, rfl⟩]) (by rw [f2]; unfold lwD; rw [if_neg (by omega), if_neg (by omega), if_neg (by omega)]) (fun w a b => by
                        rw [f2]; unfold lwD; rw [if_neg (by omega), if_neg (by omega)]
                        by_cases g : d ≤ w
                        · rw [if_pos ⟨rfl, g, b⟩, if_pos g]
                        · rw [if_neg (by omega), if_neg g]) (fun w j a b c e => by
                        rw [f2]; unfold lwD; rw [if_neg (by omega)]
                        by_cases g : d ≤ w
                        · rw [if_pos (by omega), if_pos g, show 7 * w + j + 7 = 7 * (w + 1) + j by omega]
                        · rw [if_neg (by omega), if_neg (by omega), if_neg g])
                      refine g_aload0 X dL_tables_280 ?_
                      refine g_iload6 X dL_tables_281 ?_
                      refine g_X1 X (k_X6_dropWorker E hC2 (show InR d by unfold InR; omega)) gL_tables_X6_dropWorker rfl (by decide +kernel) (by decide) ob_0 (Nat.le_of_ble_eq_true rfl) dL_tables_283 (fun z283 σ283 hz283 hp283 => ?_)
                      refine g_rg (fun hR283 => ?_)
                      rw [if_pos (show 0 ≤ d ∧ d < σ3 (TB 0) 0 by omega), if_pos (show 0 ≤ d ∧ d < σ3 (TB 0) 0 by omega)] at hp283
                      obtain ⟨e283, s283⟩ := hp283
                      rw [← s283] at hL2
                      have e79 : σ283 79 0 = σ3 (TB 0) 0 - 1 := by
                        rw [s283, o_rmW (by rw [(kpL hL c2).2.2.2.1]; omega) (by omega), (kpL hL c2).2.2.2.2.2.2.2 79 0 (by omega), f2]
                        unfold lwD
                        rw [if_pos ⟨rfl, rfl⟩, hm2]
                      refine g_aload1 X dL_tables_286 ?_
                      refine g_iconst X dL_tables_287 ?_
                      refine g_iald X (ia_79 (by omega)) dL_tables_288 ?_
                      refine g_icmp_ne (tgt := 296) X (by first | exact hR283 _ _ | exact hRL257 _ _ | exact hRL229 _ _ | exact hR221 _ _ | exact hR0 _ _ | assumption | (unfold InR; omega)) (by first | exact hR283 _ _ | exact hRL257 _ _ | exact hRL229 _ _ | exact hR221 _ _ | exact hR0 _ _ | assumption | (unfold InR; omega)) dL_tables_289 (by decide) (fun h289 => ?_) (fun h289 => ?_)
                      · skip
                        exfalso
                        rw [e283, e79] at h289
                        omega -- CLOSED
                      · skip
                        refine g_iconst X dL_tables_292 ?_
                        refine g_goto (tgt := 297) X dL_tables_293 (by decide) ?_
                        exact g_zret X hr (by first | exact Or.inl rfl | exact Or.inr rfl | omega) ⟨rfl, hL2⟩ dL_tables_297
                    · skip
                      refine g_aload3 X dL_tables_264 ?_
                      refine g_iload7 X dL_tables_265 ?_
                      refine g_aload3 X dL_tables_267 ?_
                      refine g_iload7 X dL_tables_268 ?_
                      refine g_iconst X dL_tables_270 ?_
                      refine g_iadd X dL_tables_271 ?_
                      refine g_iald X (ia_81 (by omega)) dL_tables_272 ?_
                      refine g_iast X (ia_81 (by omega)) (by first | exact hRL257 _ _ | exact hRL229 _ _ | exact hR221 _ _ | exact hR0 _ _ | assumption | (unfold InR; omega)) dL_tables_273 ?_
                      refine g_rg (fun hR273 => ?_)
                      refine g_iinc7 X dL_tables_274 (by decide) (by first | exact Or.inl rfl | exact Or.inr ⟨_, rfl, rfl⟩) ?_
                      refine g_goto (tgt := 257) X dL_tables_277 (by decide) ?_
                      refine ih257 _ _ (by omega) ?_ ?_
                      · omega
                      · rw [f0, hs3]
                        funext q k
                        simp only [up, lwD, TB, TI, TC, TR, Int.add_zero, and_true, true_and]
                        simp only [TB, TI, TC, TR] at *
                        repeat' first | refine ite_l (fun h => ?_) (fun h => ?_) | refine ite_r (fun h => ?_) (fun h => ?_)
                        all_goals first | omega | (refine st_c ?_ ?_ <;> omega) | skip
                refine L257 _ _ _ (Nat.lt_succ_self _) ?_ ?_
                · omega
                · rw [hs, show a = 42 by omega]
                  funext q k
                  simp only [up, lwD, TB, TI, TC, TR, Int.add_zero, and_true, true_and]
                  simp only [TB, TI, TC, TR] at *
                  repeat' first | refine ite_l (fun h => ?_) (fun h => ?_) | refine ite_r (fun h => ?_) (fun h => ?_)
                  all_goals first | omega | (refine st_c ?_ ?_ <;> omega) | skip
              · skip
                refine g_aload2 X dL_tables_236 ?_
                refine g_iload7 X dL_tables_237 ?_
                refine g_aload2 X dL_tables_239 ?_
                refine g_iload7 X dL_tables_240 ?_
                refine g_bipush X dL_tables_242 (by decide +kernel) ?_
                refine g_iadd X dL_tables_244 ?_
                refine g_iald X (ia_80 (by omega)) dL_tables_245 ?_
                refine g_iast X (ia_80 (by omega)) (by first | exact hRL229 _ _ | exact hR221 _ _ | exact hR0 _ _ | assumption | (unfold InR; omega)) dL_tables_246 ?_
                refine g_rg (fun hR246 => ?_)
                refine g_iinc7 X dL_tables_247 (by decide) (by first | exact Or.inl rfl | exact Or.inr ⟨_, rfl, rfl⟩) ?_
                refine g_goto (tgt := 229) X dL_tables_250 (by decide) ?_
                refine ih229 _ _ (by omega) ?_ ?_
                · omega
                · rw [e0, hs]
                  funext q k
                  simp only [up, lwD, TB, TI, TC, TR, Int.add_zero, and_true, true_and]
                  simp only [TB, TI, TC, TR] at *
                  repeat' first | refine ite_l (fun h => ?_) (fun h => ?_) | refine ite_r (fun h => ?_) (fun h => ?_)
                  all_goals first | omega | (refine st_c ?_ ?_ <;> omega) | skip
          refine L229 _ _ _ (Nat.lt_succ_self _) ?_ ?_
          · omega
          · funext q k
            simp only [up, lwD, TB, TI, TC, TR, Int.add_zero, and_true, true_and]
            simp only [TB, TI, TC, TR] at *
            repeat' first | refine ite_l (fun h => ?_) (fun h => ?_) | refine ite_r (fun h => ?_) (fun h => ?_)
            all_goals first | omega | (refine st_c ?_ ?_ <;> omega) | skip
        · skip
          refine g_aload0 X dL_tables_192 ?_
          refine g_iconst X dL_tables_193 ?_
          refine g_X1 X (k_X6_dropWorker E hC InR_0) gL_tables_X6_dropWorker rfl (by decide +kernel) (by decide) ob_0 (Nat.le_of_ble_eq_true rfl) dL_tables_194 (fun z194 σ194 hz194 hp194 => ?_)
          refine g_rg (fun hR194 => ?_)
          rw [if_neg (show ¬ ((0 : Int) ≤ 0 ∧ 0 < σ (TB 0) 0) by omega), if_neg (show ¬ ((0 : Int) ≤ 0 ∧ 0 < σ (TB 0) 0) by omega)] at hp194
          obtain ⟨e194, s194⟩ := hp194
          subst s194
          refine g_iconst X dL_tables_197 ?_
          refine g_icmp_ne (tgt := 205) X (by first | exact hR194 _ _ | exact hR0 _ _ | assumption | (unfold InR; omega)) (by first | exact hR194 _ _ | exact hR0 _ _ | assumption | (unfold InR; omega)) dL_tables_198 (by decide) (fun h198 => ?_) (fun h198 => ?_)
          · skip
            exact absurd e194 h198 -- CLOSED
          · skip
            refine g_iconst X dL_tables_201 ?_
            refine g_goto (tgt := 206) X dL_tables_202 (by decide) ?_
            exact g_zret X hr (by first | exact Or.inl rfl | exact Or.inr rfl | omega) ⟨rfl, hL⟩ dL_tables_206
    · skip
      refine g_aload1 X dL_tables_118 ?_
      refine g_iconst X dL_tables_119 ?_
      refine g_iald X (ia_79 (by omega)) dL_tables_120 ?_
      refine g_iconst X dL_tables_121 ?_
      refine g_icmp_ne (tgt := 127) X (by first | exact hR0 _ _ | assumption | (unfold InR; omega)) (by first | exact hR0 _ _ | assumption | (unfold InR; omega)) dL_tables_122 (by decide) (fun h122 => ?_) (fun h122 => ?_)
      · skip
        refine g_iconst X dL_tables_127 ?_
        refine g_istore6 X dL_tables_128 (by decide) (by first | exact Or.inl rfl | exact Or.inr ⟨_, rfl, rfl⟩) ?_
        have L130 : ∀ (n130 : Nat) (w : Int) (σ1 : St), (7 - w).toNat < n130 → (0 ≤ w ∧ w ≤ 7) → (σ1 = lwT σ (σ 79 1) w) → WG E ad 8 σ1 130 [some (.ref (ad 0)), some (.ref (ad 79)), some (.ref (ad 80)), some (.ref (ad 81)), some (.int (iI way)), some (.int (iI y)), some (.int (iI w)), none] [] := by
          intro n130
          induction n130 with
          | zero => intro w σ1 hn; exact absurd hn (Nat.not_lt_zero _)
          | succ n130 ih130 =>
            intro w σ1 hn130 hw hs
            refine g_rg (fun hRL130 => ?_)
            have e0 : σ1 79 1 = σ 79 1 := by rw [hs]; unfold lwT; rw [if_neg (by omega)]
            refine g_iload6 X dL_tables_130 ?_
            refine g_bipush X dL_tables_132 (by decide +kernel) ?_
            refine g_icmp_ge (tgt := 155) X (by first | exact hRL130 _ _ | exact hR0 _ _ | assumption | (unfold InR; omega)) (by first | exact hRL130 _ _ | exact hR0 _ _ | assumption | (unfold InR; omega)) dL_tables_134 (by decide) (fun h134 => ?_) (fun h134 => ?_)
            · skip
              refine g_aload1 X dL_tables_155 ?_
              refine g_iconst X dL_tables_156 ?_
              refine g_dup2 X dL_tables_157 rfl rfl ?_
              refine g_iald X (ia_79 (by omega)) dL_tables_158 ?_
              refine g_iconst X dL_tables_159 ?_
              refine g_iadd X dL_tables_160 ?_
              refine g_iast X (ia_79 (by omega)) (by first | exact hRL130 _ _ | exact hR0 _ _ | assumption | (unfold InR; omega)) dL_tables_161 ?_
              refine g_rg (fun hR161 => ?_)
              have ht7 : w = 7 := by omega
              obtain ⟨σ2, hs2⟩ : ∃ s, s = up σ1 79 1 (σ1 79 1 + 1) := ⟨_, rfl⟩
              rw [← hs2]
              rw [← hs2] at hR161
              have f2 : ∀ q k, σ2 q k = if q = 79 ∧ k = 1 then σ (TB 0) 1 + 1 else lwT σ (σ (TB 0) 1) 7 q k := fun q k => by rw [hs2, e0, hs, ht7, h791]; rfl
              have c2 : ∀ q k, q < 79 → σ2 q k = σ q k := fun q k a => by rw [f2, if_neg (by omega)]; unfold lwT; rw [if_neg (by omega)]
              have hC2 := hC.hi c2
              have hm2 : σ2 (TB 0) 1 = σ (TB 0) 1 := c2 _ _ (by unfold TB; omega)
              have hL2 := L_task (σ1 := σ2) hL (by omega) c2 (by rw [f2, if_neg (by omega)]; unfold lwT; rw [if_neg (by omega)]) (by rw [f2, if_pos ⟨rfl, rfl⟩]) (fun w => by rw [f2, if_neg (by omega)]; unfold lwT; rw [if_neg (by omega)]) (fun w j a b c d g => by rw [f2, if_neg (by omega)]; unfold lwT; rw [if_neg (by omega)]) (fun w a b => by rw [f2, if_neg (by omega)]; unfold lwT; rw [if_pos (by omega)])
              refine g_aload0 X dL_tables_162 ?_
              refine g_X0 X (k_X6_task E hC2) gL_tables_X6_task rfl (by decide +kernel) (by decide) ob_0 (Nat.le_of_ble_eq_true rfl) dL_tables_163 (fun z163 σ163 hz163 hp163 => ?_)
              refine g_rg (fun hR163 => ?_)
              rw [if_pos (show σ2 (TB 0) 1 < 7 by omega), if_pos (show σ2 (TB 0) 1 < 7 by omega)] at hp163
              obtain ⟨e163, s163⟩ := hp163
              rw [← s163] at hL2
              have e79 : σ163 79 1 = σ2 (TB 0) 1 + 1 := by
                rw [s163, o_adT (by rw [(kpL hL c2).2.2.2.1]; omega) (by omega), (kpL hL c2).2.2.2.2.2.2.2 79 1 (by omega), f2, if_pos ⟨rfl, rfl⟩, hm2]
              refine g_aload1 X dL_tables_166 ?_
              refine g_iconst X dL_tables_167 ?_
              refine g_iald X (ia_79 (by omega)) dL_tables_168 ?_
              refine g_iconst X dL_tables_169 ?_
              refine g_isub X dL_tables_170 ?_
              refine g_icmp_ne (tgt := 178) X (by first | exact hR163 _ _ | exact hR161 _ _ | exact hRL130 _ _ | exact hR0 _ _ | assumption | (unfold InR; omega)) (by first | exact hR163 _ _ | exact hR161 _ _ | exact hRL130 _ _ | exact hR0 _ _ | assumption | (unfold InR; omega)) dL_tables_171 (by decide) (fun h171 => ?_) (fun h171 => ?_)
              · skip
                exfalso
                rw [e163, e79] at h171
                omega -- CLOSED
              · skip
                refine g_iconst X dL_tables_174 ?_
                refine g_goto (tgt := 179) X dL_tables_175 (by decide) ?_
                exact g_zret X hr (by first | exact Or.inl rfl | exact Or.inr rfl | omega) ⟨rfl, hL2⟩ dL_tables_179
            · skip
              refine g_aload2 X dL_tables_137 ?_
              refine g_bipush X dL_tables_138 (by decide +kernel) ?_
              refine g_iload6 X dL_tables_140 ?_
              refine g_imul X dL_tables_142 ?_
              refine g_aload1 X dL_tables_143 ?_
              refine g_iconst X dL_tables_144 ?_
              refine g_iald X (ia_79 (by omega)) dL_tables_145 ?_
              refine g_iadd X dL_tables_146 ?_
              refine g_iconst X dL_tables_147 ?_
              refine g_iast X (ia_80 (by omega)) (by first | exact hRL130 _ _ | exact hR0 _ _ | assumption | (unfold InR; omega)) dL_tables_148 ?_
              refine g_rg (fun hR148 => ?_)
              refine g_iinc6 X dL_tables_149 (by decide) (by first | exact Or.inl rfl | exact Or.inr ⟨_, rfl, rfl⟩) ?_
              refine g_goto (tgt := 130) X dL_tables_152 (by decide) ?_
              refine ih130 _ _ (by omega) ?_ ?_
              · omega
              · rw [e0, hs]
                funext q k
                simp only [up, lwT, TB, TI, TC, TR, Int.add_zero, and_true, true_and]
                simp only [TB, TI, TC, TR] at *
                repeat' first | refine ite_l (fun h => ?_) (fun h => ?_) | refine ite_r (fun h => ?_) (fun h => ?_)
                all_goals first | omega | (refine st_c ?_ ?_ <;> omega) | skip
        refine L130 _ _ _ (Nat.lt_succ_self _) ?_ ?_
        · omega
        · funext q k
          simp only [up, lwT, TB, TI, TC, TR, Int.add_zero, and_true, true_and]
          simp only [TB, TI, TC, TR] at *
          repeat' first | refine ite_l (fun h => ?_) (fun h => ?_) | refine ite_r (fun h => ?_) (fun h => ?_)
          all_goals first | omega | (refine st_c ?_ ?_ <;> omega) | skip
      · skip
        refine g_iconst X dL_tables_125 ?_
        exact g_zret X hr (by first | exact Or.inl rfl | exact Or.inr rfl | omega) ⟨rfl, hL⟩ dL_tables_126
  · skip
    have J22 : ∀ (f : Int), (1 ≤ f ∧ f ≤ 10000) → WG E ad 8 σ 22 [some (.ref (ad 0)), some (.ref (ad 79)), some (.ref (ad 80)), some (.ref (ad 81)), some (.int (iI way)), some (.int (iI y)), none, none] [.int (iI f), .int (iI y)] := by
      intro f hf
      refine g_irem X (by unfold InR; omega) (by unfold InR; omega) (by omega) (by omega) dL_tables_22 ?_
      have hx0 : 0 ≤ y % f := Int.emod_nonneg _ (by omega)
      have hx1 : y % f < f := Int.emod_lt_of_pos _ (by omega)
      obtain ⟨x, hx⟩ : ∃ x, x = y % f := ⟨_, rfl⟩
      rw [← hx] at hx0 hx1 ⊢
      refine g_istore6 X dL_tables_23 (by decide) (by first | exact Or.inl rfl | exact Or.inr ⟨_, rfl, rfl⟩) ?_
      refine g_aload1 X dL_tables_25 ?_
      refine g_iconst X dL_tables_26 ?_
      refine g_iald X (ia_79 (by omega)) dL_tables_27 ?_
      refine g_bipush X dL_tables_28 (by decide +kernel) ?_
      refine g_icmp_ne (tgt := 50) X (by first | exact hR0 _ _ | assumption | (unfold InR; omega)) (by first | exact hR0 _ _ | assumption | (unfold InR; omega)) dL_tables_30 (by decide) (fun h30 => ?_) (fun h30 => ?_)
      · skip
        refine g_aload3 X dL_tables_50 ?_
        refine g_aload1 X dL_tables_51 ?_
        refine g_iconst X dL_tables_52 ?_
        refine g_iald X (ia_79 (by omega)) dL_tables_53 ?_
        refine g_iload6 X dL_tables_54 ?_
        refine g_iast X (ia_81 (by omega)) (by first | exact hR0 _ _ | assumption | (unfold InR; omega)) dL_tables_56 ?_
        refine g_rg (fun hR56 => ?_)
        refine g_iconst X dL_tables_57 ?_
        refine g_istore7 X dL_tables_58 (by decide) (by first | exact Or.inl rfl | exact Or.inr ⟨_, rfl, rfl⟩) ?_
        have L60 : ∀ (n60 : Nat) (t : Int) (σ1 : St), (7 - t).toNat < n60 → (0 ≤ t ∧ t ≤ 7) → (σ1 = lwW σ (σ 79 0) x t) → WG E ad 8 σ1 60 [some (.ref (ad 0)), some (.ref (ad 79)), some (.ref (ad 80)), some (.ref (ad 81)), some (.int (iI way)), some (.int (iI y)), some (.int (iI x)), some (.int (iI t))] [] := by
          intro n60
          induction n60 with
          | zero => intro t σ1 hn; exact absurd hn (Nat.not_lt_zero _)
          | succ n60 ih60 =>
            intro t σ1 hn60 ht hs
            refine g_rg (fun hRL60 => ?_)
            have e0 : σ1 79 0 = σ 79 0 := by rw [hs]; unfold lwW; rw [if_neg (by omega), if_neg (by omega)]
            refine g_iload7 X dL_tables_60 ?_
            refine g_bipush X dL_tables_62 (by decide +kernel) ?_
            refine g_icmp_ge (tgt := 85) X (by first | exact hRL60 _ _ | exact hR56 _ _ | exact hR0 _ _ | assumption | (unfold InR; omega)) (by first | exact hRL60 _ _ | exact hR56 _ _ | exact hR0 _ _ | assumption | (unfold InR; omega)) dL_tables_64 (by decide) (fun h64 => ?_) (fun h64 => ?_)
            · skip
              refine g_aload1 X dL_tables_85 ?_
              refine g_iconst X dL_tables_86 ?_
              refine g_dup2 X dL_tables_87 rfl rfl ?_
              refine g_iald X (ia_79 (by omega)) dL_tables_88 ?_
              refine g_iconst X dL_tables_89 ?_
              refine g_iadd X dL_tables_90 ?_
              refine g_iast X (ia_79 (by omega)) (by first | exact hRL60 _ _ | exact hR56 _ _ | exact hR0 _ _ | assumption | (unfold InR; omega)) dL_tables_91 ?_
              refine g_rg (fun hR91 => ?_)
              have ht7 : t = 7 := by omega
              obtain ⟨σ2, hs2⟩ : ∃ s, s = up σ1 79 0 (σ1 79 0 + 1) := ⟨_, rfl⟩
              rw [← hs2]
              rw [← hs2] at hR91
              have f2 : ∀ q k, σ2 q k = if q = 79 ∧ k = 0 then σ (TB 0) 0 + 1 else lwW σ (σ (TB 0) 0) x 7 q k := fun q k => by rw [hs2, e0, hs, ht7, h790]; rfl
              have c2 : ∀ q k, q < 79 → σ2 q k = σ q k := fun q k a => by rw [f2, if_neg (by omega)]; unfold lwW; rw [if_neg (by omega), if_neg (by omega)]
              have hC2 := hC.hi c2
              have hm2 : σ2 (TB 0) 0 = σ (TB 0) 0 := c2 _ _ (by unfold TB; omega)
              have hL2 := L_worker (σ1 := σ2) (x := x) hL (by omega) (by omega) c2 (by rw [f2, if_pos ⟨rfl, rfl⟩]) (by rw [f2, if_neg (by omega)]; unfold lwW; rw [if_neg (by omega), if_neg (by omega)]) (fun w a => by rw [f2, if_neg (by omega)]; unfold lwW; rw [if_neg (by omega), if_neg (by omega)]) (by rw [f2, if_neg (by omega)]; unfold lwW; rw [if_neg (by omega), if_pos ⟨rfl, rfl⟩]) (fun k a => by rw [f2, if_neg (by omega)]; unfold lwW; rw [if_neg (by omega), if_neg (by omega)]) (fun j a b => by rw [f2, if_neg (by omega)]; unfold lwW; rw [if_pos (by omega)])
              refine g_aload0 X dL_tables_92 ?_
              refine g_iload6 X dL_tables_93 ?_
              refine g_X1 X (k_X6_worker E hC2 (show InR x by unfold InR; omega)) gL_tables_X6_worker rfl (by decide +kernel) (by decide) ob_0 (Nat.le_of_ble_eq_true rfl) dL_tables_95 (fun z95 σ95 hz95 hp95 => ?_)
              refine g_rg (fun hR95 => ?_)
              rw [if_pos (show 0 ≤ x ∧ x ≤ 9999 by omega), if_pos (show σ2 (TB 0) 0 < 7 by omega), if_pos (show (0 ≤ x ∧ x ≤ 9999) ∧ σ2 (TB 0) 0 < 7 by omega)] at hp95
              obtain ⟨e95, s95⟩ := hp95
              rw [← s95] at hL2
              have e79 : σ95 79 0 = σ2 (TB 0) 0 + 1 := by
                rw [s95, o_adW (by rw [(kpL hL c2).2.2.2.1]; omega) (by omega), (kpL hL c2).2.2.2.2.2.2.2 79 0 (by omega), f2, if_pos ⟨rfl, rfl⟩, hm2]
              refine g_aload1 X dL_tables_98 ?_
              refine g_iconst X dL_tables_99 ?_
              refine g_iald X (ia_79 (by omega)) dL_tables_100 ?_
              refine g_iconst X dL_tables_101 ?_
              refine g_isub X dL_tables_102 ?_
              refine g_icmp_ne (tgt := 110) X (by first | exact hR95 _ _ | exact hR91 _ _ | exact hRL60 _ _ | exact hR56 _ _ | exact hR0 _ _ | assumption | (unfold InR; omega)) (by first | exact hR95 _ _ | exact hR91 _ _ | exact hRL60 _ _ | exact hR56 _ _ | exact hR0 _ _ | assumption | (unfold InR; omega)) dL_tables_103 (by decide) (fun h103 => ?_) (fun h103 => ?_)
              · skip
                exfalso
                rw [e95, e79] at h103
                omega -- CLOSED
              · skip
                refine g_iconst X dL_tables_106 ?_
                refine g_goto (tgt := 111) X dL_tables_107 (by decide) ?_
                exact g_zret X hr (by first | exact Or.inl rfl | exact Or.inr rfl | omega) ⟨rfl, hL2⟩ dL_tables_111
            · skip
              refine g_aload2 X dL_tables_67 ?_
              refine g_bipush X dL_tables_68 (by decide +kernel) ?_
              refine g_aload1 X dL_tables_70 ?_
              refine g_iconst X dL_tables_71 ?_
              refine g_iald X (ia_79 (by omega)) dL_tables_72 ?_
              refine g_imul X dL_tables_73 ?_
              refine g_iload7 X dL_tables_74 ?_
              refine g_iadd X dL_tables_76 ?_
              refine g_iconst X dL_tables_77 ?_
              refine g_iast X (ia_80 (by omega)) (by first | exact hRL60 _ _ | exact hR56 _ _ | exact hR0 _ _ | assumption | (unfold InR; omega)) dL_tables_78 ?_
              refine g_rg (fun hR78 => ?_)
              refine g_iinc7 X dL_tables_79 (by decide) (by first | exact Or.inl rfl | exact Or.inr ⟨_, rfl, rfl⟩) ?_
              refine g_goto (tgt := 60) X dL_tables_82 (by decide) ?_
              refine ih60 _ _ (by omega) ?_ ?_
              · omega
              · rw [e0, hs]
                funext q k
                simp only [up, lwW, TB, TI, TC, TR, Int.add_zero, and_true, true_and]
                simp only [TB, TI, TC, TR] at *
                repeat' first | refine ite_l (fun h => ?_) (fun h => ?_) | refine ite_r (fun h => ?_) (fun h => ?_)
                all_goals first | omega | (refine st_c ?_ ?_ <;> omega) | skip
        refine L60 _ _ _ (Nat.lt_succ_self _) ?_ ?_
        · omega
        · funext q k
          simp only [up, lwW, TB, TI, TC, TR, Int.add_zero, and_true, true_and]
          simp only [TB, TI, TC, TR] at *
          repeat' first | refine ite_l (fun h => ?_) (fun h => ?_) | refine ite_r (fun h => ?_) (fun h => ?_)
          all_goals first | omega | (refine st_c ?_ ?_ <;> omega) | skip
      · skip
        refine g_aload0 X dL_tables_33 ?_
        refine g_iload6 X dL_tables_34 ?_
        refine g_X1 X (k_X6_worker E hC (show InR x by unfold InR; omega)) gL_tables_X6_worker rfl (by decide +kernel) (by decide) ob_0 (Nat.le_of_ble_eq_true rfl) dL_tables_36 (fun z36 σ36 hz36 hp36 => ?_)
        refine g_rg (fun hR36 => ?_)
        rw [if_pos (show 0 ≤ x ∧ x ≤ 9999 by omega), if_neg (show ¬ σ (TB 0) 0 < 7 by omega), if_neg (show ¬ ((0 ≤ x ∧ x ≤ 9999) ∧ σ (TB 0) 0 < 7) by omega)] at hp36
        obtain ⟨e36, s36⟩ := hp36
        subst s36
        refine g_bipush X dL_tables_39 (by decide +kernel) ?_
        refine g_icmp_ne (tgt := 48) X (by first | exact hR36 _ _ | exact hR0 _ _ | assumption | (unfold InR; omega)) (by first | exact hR36 _ _ | exact hR0 _ _ | assumption | (unfold InR; omega)) dL_tables_41 (by decide) (fun h41 => ?_) (fun h41 => ?_)
        · skip
          exact absurd e36 h41 -- CLOSED
        · skip
          refine g_iconst X dL_tables_44 ?_
          refine g_goto (tgt := 49) X dL_tables_45 (by decide) ?_
          exact g_zret X hr (by first | exact Or.inl rfl | exact Or.inr rfl | omega) ⟨rfl, hL⟩ dL_tables_49
    refine g_iload5 X dL_tables_5 ?_
    refine g_iload5 X dL_tables_7 ?_
    refine g_iconst X dL_tables_9 ?_
    refine g_irem X (by first | omega | (unfold InR; omega)) (by unfold InR; omega) (by omega) (by omega) dL_tables_10 ?_
    refine g_if_ne (tgt := 20) X (by first | exact hR0 _ _ | assumption | (unfold InR; omega)) dL_tables_11 (by decide) (fun h11 => ?_) (fun h11 => ?_)
    · skip
      refine g_bipush X dL_tables_20 (by decide +kernel) ?_
      exact J22 _ (by omega)
    · skip
      refine g_sipush X dL_tables_14 (by decide +kernel) ?_
      refine g_goto (tgt := 22) X dL_tables_17 (by decide) ?_
      exact J22 _ (by omega)

