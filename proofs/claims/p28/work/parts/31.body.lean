/-! THE LAW: its script and its body -/
def Lx (E : EV) (b L : Nat) (xs : Nat → Int32) : Prop := match E with
  | (p, l, e, R, s, m, args, below, meth, c, Q, D, cy, A, k, n) => va_X b L xs s s.heap ∧ b < s.heap.size ∧ ¬ A b
theorem iI_nat {L : Nat} (h : L ≤ 2048) : Int32.ofNat L = iI (L : Int) := by
  rw [← Int32.toInt_inj, iI_toInt ⟨by omega, by omega⟩]
  first | exact Int32.toInt_ofNat_of_lt (by omega) | (rw [Int32.toInt_ofNat']; simp [Int.bmod]; omega)
section LAWX
variable {E : EV} {ad : Int → Nat} {cc : ByteArray} {nL : Nat} {own : String} {Ts : List Cond} {fr lo : Nat} {σ : St} {pc : Nat} {lv : List (Option Value)} {st : List Value}
theorem g_sld (X : Cx E ad cc nL own Ts fr lo) {b L : Nat} {xs : Nat → Int32} (hX : Lx E b L xs) {z : Int} (h0 : 0 ≤ z) (h1 : z < L) (hr : InR z) (hdg : decode cc pc = .ok (.iaload, 1)) (kk : WG E ad nL σ (pc + 1) lv (.int (iI (xs z.toNat).toInt) :: st)) : WG E ad nL σ pc lv (.int (iI z) :: .ref b :: st) := by
  obtain ⟨p, l, e, R, s, m, args, below, meth, c, Q, D, cy, A, kc, ks⟩ := E
  obtain ⟨hx, hb, hml, hown, hts, hK, hAp, hAA, hkc, hks, hfr, hlo⟩ := X
  obtain ⟨x1, x2, x3⟩ := hX
  intro hR H locs ls hP hS hl
  refine va_sld hx hb x1 x2 x3 hS (iI_vp h0 h1 hr) hdg ?_
  rw [iI_clamp h0 hr, ← iI_of (xs z.toNat)]
  exact kk hR H locs ls hP hS hl
theorem g_slen (X : Cx E ad cc nL own Ts fr lo) {b L : Nat} {xs : Nat → Int32} (hX : Lx E b L xs) (hL : L ≤ 2048) (hdg : decode cc pc = .ok (.arraylength, 1)) (kk : WG E ad nL σ (pc + 1) lv (.int (iI (L : Int)) :: st)) : WG E ad nL σ pc lv (.ref b :: st) := by
  obtain ⟨p, l, e, R, s, m, args, below, meth, c, Q, D, cy, A, kc, ks⟩ := E
  obtain ⟨hx, hb, hml, hown, hts, hK, hAp, hAA, hkc, hks, hfr, hlo⟩ := X
  obtain ⟨x1, x2, x3⟩ := hX
  intro hR H locs ls hP hS hl
  refine va_slen hx hb x1 x2 x3 hS hdg ?_
  rw [iI_nat hL]
  exact kk hR H locs ls hP hS hl
/-- a contract of a method that looks at the script -/
def MGX (E : EV) (y : MethodName) (ws : List Cond) (fr lo : Nat) (ad : Int → Nat) (σ : St) (b L : Nat) (xs : Nat → Int32) (avs : List Value) (post : Option Int → St → Prop) : Prop := match E with
  | (p, l, e, R, s, m, args, below, meth, c, Q, D, cy, A, k, n) => Met l y ws { frames := fr, cells := 0, slots := 0, locals := lo } (va_Pc avs (fun U => (va_X b L xs U U.heap ∧ b < U.heap.size) ∧ WS D ad cy σ U)) (GQ D ad cy post) 0 0 (AA ad)
theorem MGX.of {E0 : EV} {y : MethodName} {ws ws' : List Cond} {fr lo : Nat} {ad : Int → Nat} {σ : St} {b L : Nat} {xs : Nat → Int32} {avs : List Value} {post : Option Int → St → Prop} {cc : ByteArray} {maxL : Nat} {ret : Option FieldType} {own : String} (hbA : ¬ AA ad b) (lv0 : List (Option Value)) (hy : plainName y.cls = true) (hw : ws = Cond.code y cc maxL ret :: ws') (hown : y.cls = own) (hlen : avs.length ≤ maxL) (hcat0 : avs.all (fun v => v.category == 1) = true) (hlv0 : avs.map some ++ List.replicate (maxL - avs.length) none = lv0) (body : ∀ E : EV, Cx E ad cc maxL own ws fr lo → Lx E b L xs → Rt E ad ret post → WG E ad maxL σ 0 lv0 []) : MGX E0 y ws fr lo ad σ b L xs avs post := by
  obtain ⟨p0, l, e0, R0, s0, m0, args0, below0, meth0, c0, Q0, D, cy, A0, k0, n0⟩ := E0
  show Met _ _ _ _ _ _ _ _ _
  have hcat : ∀ v ∈ avs, v.category = 1 := fun v hv => by
    have := List.all_eq_true.mp hcat0 v hv
    simpa using this
  have hlv : ∀ (i : Nat) (v : Value), lv0[i]? = some (some v) → avs[i]? = some v := by
    intro i v h
    rw [← hlv0] at h
    by_cases hi : i < avs.length
    · rw [List.getElem?_append_left (by simpa using hi), List.getElem?_map] at h
      cases h9 : avs[i]? with
      | none => rw [h9] at h; cases h
      | some x => rw [h9] at h; cases h; rfl
    · rw [List.getElem?_append_right (by simpa using hi), List.getElem?_replicate] at h
      split at h <;> cases h
  refine Met.ofW (cc := cc) (maxL := maxL) (ret := ret) hy hw ?_
  intro p e s m args below meth c s₁ B hml hv
  obtain ⟨rfl, hXX, hP, hK, hAp, hRG⟩ := hv
  have hts := atoms_spec (ws := ws) B.pre
  have hown1 : s.vm.findClass own = some m.cls := by rw [← hown]; exact findClass_of_methodNamed B.named
  have hsl : ∀ vs : List Value, (∀ v ∈ vs, v.category = 1) → (lg_sl vs).length = vs.length := by
    intro vs
    induction vs with
    | nil => intro _; rfl
    | cons a t ih =>
      intro h
      have h1 := ih (fun v hv => h v (List.mem_cons_of_mem _ hv))
      have h2 := h a List.mem_cons_self
      cases a <;> simp_all [lg_sl, Value.category]
  have hargs : ∀ (vs : List Value) (j : Nat), (∀ v ∈ vs, v.category = 1) → ∀ (i : Nat) (v : Value), vs[i]? = some v → (j + i, v) ∈ lv_args j vs := by
    intro vs
    induction vs with
    | nil => intro j _ i v h; simp at h
    | cons a t ih =>
      intro j h i v hi
      have h2 := h a List.mem_cons_self
      cases i with
      | zero =>
        simp at hi
        subst hi
        simp [lv_args]
      | succ i =>
        have h3 := ih (j + 1) (fun v hv => h v (List.mem_cons_of_mem _ hv)) i v (by simpa using hi)
        have e9 : j + (i + 1) = j + 1 + i := by omega
        rw [e9]
        unfold lv_args
        rw [h2]
        exact List.mem_cons_of_mem _ h3
  have hl := lv_entry avs (n := maxL) (by rw [hsl avs hcat]; exact hlen)
  rw [lg_entry_eq]
  have hb := body (p, l, e, (headSpec ws { frames := fr, cells := 0, slots := 0, locals := lo }).room, s, m, avs.toArray, below, meth, c, MQ below (GQ D ad cy post) avs.toArray s 0 0 (AA ad), D, cy, AA ad, 0, 0) ⟨B.exec, B.bytes, hml, hown1, hts, hK, hAp, fun q h1 h2 => ⟨q, h1, h2, rfl⟩, Nat.le_refl _, Nat.le_refl _, Nat.le_refl _, Nat.le_refl _⟩ ⟨hXX.1, hXX.2, hbA⟩ ⟨B.returns, B.notSynchronized, rfl, rfl, rfl, rfl⟩
  exact hb hRG s.heap [] _ hP va_S.rf ⟨hl.1, hl.2.1, fun i v hv => hl.2.2 (i, v) (by
    have := hargs avs 0 hcat i v (hlv i v hv)
    rwa [Nat.zero_add] at this)⟩
theorem k_L_cell (E0 : EV) {ad : Int → Nat} {σ : St} {b L : Nat} {xs : Nat → Int32} {k : Int} (hbA : ¬ AA ad b) (hL : L ≤ 260) (hk : 0 ≤ k ∧ k < 1000) : MGX E0 yL_cell wsL_cell 0 0 ad σ b L xs [.ref b, .int (iI k)] (PI (fun z σ' => σ' = σ)) := by
  refine MGX.of (cc := cL_cell) (maxL := 2) (ret := (some .int)) (own := RL) hbA [some (.ref b), some (.int (iI k))] (by decide +kernel) rfl rfl (Nat.le_of_ble_eq_true rfl) rfl rfl (fun E X hX hr => ?_)
  refine g_iload1 X dL_cell_0 ?_
  refine g_aload0 X dL_cell_1 ?_
  refine g_slen X hX (by omega) dL_cell_2 ?_
  refine g_icmp_ge (tgt := 12) X (by unfold InR; omega) (by unfold InR; omega) dL_cell_3 (by decide) (fun h3 => ?_) (fun h3 => ?_)
  · refine g_ldc X (z := 40503) (by decide +kernel) rfl dL_cell_12 ?_
    refine g_iload1 X dL_cell_14 ?_
    refine g_iconst X dL_cell_15 ?_
    refine g_iadd X dL_cell_16 ?_
    refine g_imul X dL_cell_17 ?_
    exact g_iret X hr (by unfold InR; omega) rfl dL_cell_18
  · refine g_aload0 X dL_cell_6 ?_
    refine g_iload1 X dL_cell_7 ?_
    refine g_sld X hX hk.1 (by omega) (by unfold InR; omega) dL_cell_8 ?_
    refine g_goto (tgt := 18) X dL_cell_9 (by decide) ?_
    exact g_iret X hr (InR_of _) rfl dL_cell_18
theorem g_cell (X : Cx E ad cc nL own Ts fr lo) {b L : Nat} {xs : Nat → Int32} (hX : Lx E b L xs) (hL : L ≤ 260) {k : Int} {idx : Nat} (hk : 0 ≤ k ∧ k < 1000) (hG : GoodIn Ts (va_wsS own idx yL_cell wsL_cell)) (hR : 0 + 1 ≤ fr ∧ 8 + (2 + 11) + 0 ≤ lo) (hcat : (st.map fun v => v.category).sum ≤ 8) (hdg : decode cc pc = .ok (.invokestatic idx, 3)) (kk : ∀ (z : Int), InR z → WG E ad nL σ (pc + 3) lv (.int (iI z) :: st)) : WG E ad nL σ pc lv (.int (iI k) :: .ref b :: st) := by
  obtain ⟨p, l, e, R, s, m, args, below, meth, c, Q, D, cy, A, kc, ks⟩ := E
  obtain ⟨hx, hb, hml, hown, hts, hK, hAp, hAA, hkc, hks, hfr, hlo⟩ := X
  obtain ⟨x1, x2, x3⟩ := hX
  intro hRG H locs ls hP hS hl
  have hbA : ¬ AA ad b := fun ⟨q, h1, h2, h3⟩ => x3 (by rw [h3]; exact hAA q h1 h2)
  have hM := k_L_cell (p, l, e, R, s, m, args, below, meth, c, Q, D, cy, A, kc, ks) (σ := σ) (xs := xs) hbA hL hk
  have hXH : va_X b L xs s H := x1.kept (hS.2.1 b x2 x3)
  have hbH : b < H.size := Nat.lt_of_lt_of_le x2 hS.1
  have hrun := va_runS (p := p) (e := e) (R := R) (m := m) (below := below) (meth := meth) (locs := locs) (cells := kc) (slots := ks) (g := F0 m pc ls (.int (iI k) :: .ref b :: st)) (As := [.ref b, .int (iI k)]) (rest := st) ⟨hx, hb, hml, hown, hts⟩ hM (va_cwS 2 hts hG rfl rfl rfl (by decide +kernel) ⟨Nat.le_trans hR.1 hfr, Nat.le_trans hR.2 hlo⟩) ⟨fun a U g mk q => ⟨q.1, ⟨va_X.moved (u := U) (U := U.calling g mk a) (Vm.Alike.refl U.vm) q.2.1.1, q.2.1.2⟩, q.2.2.calling⟩, fun U hU hW => ⟨rfl, ⟨by rw [hU]; exact va_X.moved hW.alike hXH, by rw [hU]; exact hbH⟩, by rw [hU]; exact hP, va_K.moved hW.alike hK, hAp, hRG⟩⟩ rfl rfl hl.1 rfl (lv_room hcat) hdg ⟨hkc, hks⟩
  exact g_after hAA hrun hS hl (k_I (k := fun r σ' => WG _ ad nL σ' (pc + 3) lv ((rO r).toList ++ st)) (fun z σ' hz hq => by subst hq; exact kk z hz))
end LAWX
theorem Lx.add {E : EV} {b L : Nat} {xs : Nat → Int32} (h : Lx E b L xs) (k n : Nat) : Lx (EA E k n) b L xs := by
  obtain ⟨p, l, e, R, s, m, args, below, meth, c, Q, D, cy, A, k0, n0⟩ := E
  exact h
theorem NW.add {E : EV} (h : NW E) (k n : Nat) : NW (EA E k n) := by
  obtain ⟨p, l, e, R, s, m, args, below, meth, c, Q, D, cy, A, k0, n0⟩ := E
  exact h
theorem RM.le {E : EV} {a b k n : Nat} (h : RM E a b) (hk : k ≤ a) (hn : n ≤ b) : RM E k n := by
  obtain ⟨p, l, e, R, s, m, args, below, meth, c, Q, D, cy, A, k0, n0⟩ := E
  exact ⟨Nat.le_trans (Nat.add_le_add_left hk _) h.1, Nat.le_trans (Nat.add_le_add_left hn _) h.2⟩
theorem RM.add {E : EV} {a b k n : Nat} (h : RM E (a + k) (b + n)) : RM (EA E a b) k n := by
  obtain ⟨p, l, e, R, s, m, args, below, meth, c, Q, D, cy, A, k0, n0⟩ := E
  exact ⟨by rw [Nat.add_assoc]; exact h.1, by rw [Nat.add_assoc]; exact h.2⟩
theorem EA_EA (E : EV) (a b k n : Nat) : EA (EA E a b) k n = EA E (a + k) (b + n) := by
  obtain ⟨p, l, e, R, s, m, args, below, meth, c, Q, D, cy, A, k0, n0⟩ := E
  show ((p, l, e, R, s, m, args, below, meth, c, Q, D, cy, A, k0 + a + k, n0 + b + n) : EV) = (p, l, e, R, s, m, args, below, meth, c, Q, D, cy, A, k0 + (a + k), n0 + (b + n))
  rw [Nat.add_assoc, Nat.add_assoc]
set_option maxHeartbeats 4000000 in
set_option maxRecDepth 100000 in
theorem law_tail {E : EV} {ad : Int → Nat} {b : Nat} {σ : St} {v6 v7 : Option Value} (X : Cx E ad cL_law 8 RL wsL_law 9 227) (h : LW σ) (fin : ∀ (lv : List (Option Value)) (σ' : St), WG E ad 8 σ' 214 lv [.int (iI 1)]) : WG E ad 8 σ 174 [some (.ref b), some (.ref (ad 0)), some (.ref (ad 79)), some (.ref (ad 80)), some (.ref (ad 81)), some (.int (iI 1)), v6, v7] [] := by
  have hT0 := h.1.1 0 (by omega) (by omega)
  refine g_iload5 X dL_law_174 ?_
  refine g_if_eq (tgt := 213) X (by first  | assumption | (unfold InR; omega)) dL_law_176 (by decide) (fun h176 => ?_) (fun h176 => ?_)
  · skip
    exact absurd h176 (by decide) -- CLOSED
  · skip
    refine g_aload1 X dL_law_179 ?_
    refine g_bipush X dL_law_180 (by decide +kernel) ?_
    refine g_I1 X (k_X6_count E h.1 (show InR 9 by unfold InR; omega)) gL_law_X6_count rfl (by decide +kernel) (by decide) ob_0 (Nat.le_of_ble_eq_true rfl) dL_law_182 (fun z182 σ182 hz182 hp182 => ?_)
    refine g_rg (fun hR182 => ?_)
    have P182 := (PS.rf h).q hp182.2
    have e182 := (a_count hT0 (PS.rf h) h.2.1 hp182.1).2.2.2.2.2.2.2.2 rfl
    refine g_iconst X dL_law_185 ?_
    refine g_icmp_ne (tgt := 213) X (by first | exact hR182 _ _ | assumption | (unfold InR; omega)) (by first | exact hR182 _ _ | assumption | (unfold InR; omega)) dL_law_186 (by decide) (fun h186 => ?_) (fun h186 => ?_)
    · skip
      exact absurd e182 h186 -- CLOSED
    · skip
      refine g_aload1 X dL_law_189 ?_
      refine g_iconst X dL_law_190 ?_
      refine g_iconst X dL_law_191 ?_
      refine g_I2 X (k_X6_price E P182.1 (show InR (-1) by unfold InR; omega) InR_0) gL_law_X6_price rfl (by decide +kernel) (by decide) ob_0 (Nat.le_of_ble_eq_true rfl) dL_law_192 (fun z192 σ192 hz192 hp192 => ?_)
      refine g_rg (fun hR192 => ?_)
      have P192 := P182.q hp192.2
      have e192 : z192 = -1 := by rw [hp192.1, if_neg (by omega)]
      refine g_iconst X dL_law_195 ?_
      refine g_icmp_ne (tgt := 213) X (by first | exact hR192 _ _ | exact hR182 _ _ | assumption | (unfold InR; omega)) (by first | exact hR192 _ _ | exact hR182 _ _ | assumption | (unfold InR; omega)) dL_law_196 (by decide) (fun h196 => ?_) (fun h196 => ?_)
      · skip
        exact absurd e192 h196 -- CLOSED
      · skip
        refine g_aload1 X dL_law_199 ?_
        refine g_iconst X dL_law_200 ?_
        refine g_iconst X dL_law_201 ?_
        refine g_I2 X (k_X6_workerIs E P192.1 (show InR (-1) by unfold InR; omega) InR_0) gL_law_X6_workerIs rfl (by decide +kernel) (by decide) ob_0 (Nat.le_of_ble_eq_true rfl) dL_law_202 (fun z202 σ202 hz202 hp202 => ?_)
        refine g_rg (fun hR202 => ?_)
        have e202 : z202 = -1 := by rw [hp202.1, if_neg (by omega)]
        refine g_iconst X dL_law_205 ?_
        refine g_icmp_ne (tgt := 213) X (by first | exact hR202 _ _ | exact hR192 _ _ | exact hR182 _ _ | assumption | (unfold InR; omega)) (by first | exact hR202 _ _ | exact hR192 _ _ | exact hR182 _ _ | assumption | (unfold InR; omega)) dL_law_206 (by decide) (fun h206 => ?_) (fun h206 => ?_)
        · skip
          exact absurd e202 h206 -- CLOSED
        · skip
          refine g_iconst X dL_law_209 ?_
          refine g_goto (tgt := 214) X dL_law_210 (by decide) ?_
          exact fin _ _
set_option maxHeartbeats 4000000 in
set_option maxRecDepth 100000 in
theorem law_turns {E0 : EV} {ad : Int → Nat} {b L : Nat} {xs : Nat → Int32} {turns : Int} (X0 : Cx E0 ad cL_law 8 RL wsL_law 9 227) (hN0 : NW E0) (hM0 : RM E0 60 420) (hX0 : Lx E0 b L xs) (hL : L ≤ 260) (had : ad (-1) = 0) (ht : 0 ≤ turns ∧ turns ≤ 47) (fin : ∀ (k n : Nat) (lv : List (Option Value)) (σ' : St), k ≤ 60 → n ≤ 420 → WG (EA E0 k n) ad 8 σ' 214 lv [.int (iI 1)]) : ∀ (f i : Nat) (σ : St), (turns - i).toNat < f → (i : Int) ≤ turns → LW σ → WG (EA E0 (1 + i) (7 * (1 + i))) ad 8 σ 112 [some (.ref b), some (.ref (ad 0)), some (.ref (ad 79)), some (.ref (ad 80)), some (.ref (ad 81)), some (.int (iI 1)), some (.int (iI turns)), some (.int (iI i))] [] := by
  intro f
  induction f with
  | zero => intro i σ hn; exact absurd hn (Nat.not_lt_zero _)
  | succ f ih =>
    intro i σ hn hi hLw
    obtain ⟨E, hE⟩ : ∃ E, E = EA E0 (1 + i) (7 * (1 + i)) := ⟨_, rfl⟩
    have X : Cx E ad cL_law 8 RL wsL_law 9 227 := by rw [hE]; exact X0.add (hM0.le (by omega) (by omega))
    have hN : NW E := by rw [hE]; exact hN0.add _ _
    have hRM : RM E 1 7 := by rw [hE]; exact RM.add (hM0.le (by omega) (by omega))
    have hXs : Lx E b L xs := by rw [hE]; exact hX0.add _ _
    rw [← hE]
    refine g_rg (fun hRL112 => ?_)
    refine g_iload7 X dL_law_112 ?_
    refine g_iload6 X dL_law_114 ?_
    refine g_icmp_ge (tgt := 174) X (by first | exact hRL112 _ _ | assumption | (unfold InR; omega)) (by first | exact hRL112 _ _ | assumption | (unfold InR; omega)) dL_law_116 (by decide) (fun h116 => ?_) (fun h116 => ?_)
    · skip
      exact law_tail X hLw (fun lv σ' => by rw [hE]; exact fin _ _ lv σ' (by omega) (by omega))
    · skip
      refine g_iload5 X dL_law_119 ?_
      refine g_if_eq (tgt := 174) X (by first | exact hRL112 _ _ | assumption | (unfold InR; omega)) dL_law_121 (by decide) (fun h121 => ?_) (fun h121 => ?_)
      · skip
        exact absurd h121 (by decide) -- CLOSED
      · skip
        refine g_aload1 X dL_law_124 ?_
        refine g_aload2 X dL_law_125 ?_
        refine g_aload3 X dL_law_126 ?_
        refine g_aload4 X dL_law_127 ?_
        refine g_aload0 X dL_law_129 ?_
        refine g_iconst X dL_law_130 ?_
        refine g_iload7 X dL_law_131 ?_
        refine g_iadd X dL_law_133 ?_
        refine g_cell X hXs hL (k := (5 + (i : Int))) (by omega) gL_law_L_cell ⟨(Nat.le_of_ble_eq_true rfl), (Nat.le_of_ble_eq_true rfl)⟩ (Nat.le_of_ble_eq_true rfl) dL_law_134 (fun z134 hz134 => ?_)
        refine g_sipush X dL_law_137 (by decide +kernel) ?_
        refine g_iload7 X dL_law_140 ?_
        refine g_imul X dL_law_142 ?_
        refine g_ixor X (iI_of _).symm dL_law_143 ?_
        refine g_LI5 X (k_L_acts E hLw) gL_law_L_acts rfl (by decide +kernel) (by decide) (Nat.le_of_ble_eq_true rfl) dL_law_144 (fun z144 σ144 hz144 hp144 => ?_)
        refine g_rg (fun hR144 => ?_)
        refine g_if_eq (tgt := 165) X (by first | exact hR144 _ _ | exact hRL112 _ _ | assumption | (unfold InR; omega)) dL_law_147 (by decide) (fun h147 => ?_) (fun h147 => ?_)
        · skip
          exfalso
          have h9 := hp144.1
          omega -- CLOSED
        · skip
          refine g_aload1 X dL_law_150 ?_
          refine g_aload2 X dL_law_151 ?_
          refine g_aload3 X dL_law_152 ?_
          refine g_aload4 X dL_law_153 ?_
          refine g_NI4 X hN (hRM.le (by omega) (by omega)) (k_L_isSo E hp144.2 had) gL_law_L_isSo rfl (by decide +kernel) (by decide) (Nat.le_of_ble_eq_true rfl) dL_law_155 (fun z155 σ155 hz155 hp155 => ?_)
          refine g_rg (fun hR155 => ?_)
          obtain ⟨e155, l155⟩ := hp155
          rw [e155]
          have hEE : EA E 1 7 = EA E0 (1 + (i + 1)) (7 * (1 + (i + 1))) := by rw [hE, EA_EA, show 7 * (1 + i) + 7 = 7 * (1 + (i + 1)) by omega]; rfl
          replace X := X.add (hRM.le (show 1 ≤ 1 by omega) (show 7 ≤ 7 by omega))
          rw [hEE] at X ⊢
          refine g_if_eq (tgt := 165) X (by first | exact hR155 _ _ | exact hR144 _ _ | exact hRL112 _ _ | assumption | (unfold InR; omega)) dL_law_158 (by decide) (fun h158 => ?_) (fun h158 => ?_)
          · skip
            exact absurd h158 (by decide) -- CLOSED
          · skip
            refine g_iconst X dL_law_161 ?_
            refine g_goto (tgt := 166) X dL_law_162 (by decide) ?_
            refine g_istore5 X dL_law_166 (by decide) (by first | exact Or.inl rfl | exact Or.inr ⟨_, rfl, rfl⟩) ?_
            refine g_iinc7 X dL_law_168 (by decide) (by first | exact Or.inl rfl | exact Or.inr ⟨_, rfl, rfl⟩) ?_
            refine g_goto (tgt := 112) X dL_law_171 (by decide) ?_
            rw [show ((i : Int) + 1) = ((i + 1 : Nat) : Int) by omega]
            exact ih (i + 1) σ155 (by omega) (by omega) l155
set_option maxHeartbeats 4000000 in
set_option maxRecDepth 100000 in
theorem law_body {E : EV} {ad : Int → Nat} {b L : Nat} {xs : Nat → Int32} {σ : St} (X : Cx E ad cL_law 8 RL wsL_law 9 227) (hN : NW E) (hRM : RM E 60 420) (hXs : Lx E b L xs) (hL : L ≤ 260) (had : ad (-1) = 0) (h : LW σ) (fin : ∀ (k n : Nat) (lv : List (Option Value)) (σ' : St), k ≤ 60 → n ≤ 420 → WG (EA E k n) ad 8 σ' 214 lv [.int (iI 1)]) : WG E ad 8 σ 23 [some (.ref b), some (.ref (ad 0)), some (.ref (ad 79)), some (.ref (ad 80)), some (.ref (ad 81)), none, none, none] [] := by
  refine g_rg (fun hR0 => ?_)
  refine g_aload1 X dL_law_23 ?_
  refine g_aload2 X dL_law_24 ?_
  refine g_aload3 X dL_law_25 ?_
  refine g_aload4 X dL_law_26 ?_
  refine g_NI4 X hN (hRM.le (by omega) (by omega)) (k_L_isSo E h had) gL_law_L_isSo rfl (by decide +kernel) (by decide) (Nat.le_of_ble_eq_true rfl) dL_law_28 (fun z28 σ28 hz28 hp28 => ?_)
  refine g_rg (fun hR28 => ?_)
  obtain ⟨e28, l28⟩ := hp28
  rw [e28]
  obtain ⟨E1, hE⟩ : ∃ E1, E1 = EA E 1 7 := ⟨_, rfl⟩
  have X0 := X
  have hXs0 := hXs
  replace X := X.add (hRM.le (show 1 ≤ 60 by omega) (show 7 ≤ 420 by omega))
  replace hXs := hXs.add 1 7
  rw [← hE] at X hXs ⊢
  revert hE X hXs
  generalize hEO : E = EO at *
  clear hEO
  intro hE X hXs
  generalize E1 = E at *
  refine g_istore5 X dL_law_31 (by decide) (by first | exact Or.inl rfl | exact Or.inr ⟨_, rfl, rfl⟩) ?_
  refine g_iconst X dL_law_33 ?_
  refine g_istore6 X dL_law_34 (by decide) (by first | exact Or.inl rfl | exact Or.inr ⟨_, rfl, rfl⟩) ?_
  have L36 : ∀ (n36 : Nat) (k : Int) (σ1 : St), (4 - k).toNat < n36 → (0 ≤ k ∧ k ≤ 4) → (LW σ1) → WG E ad 8 σ1 36 [some (.ref b), some (.ref (ad 0)), some (.ref (ad 79)), some (.ref (ad 80)), some (.ref (ad 81)), some (.int (iI 1)), some (.int (iI k)), none] [] := by
    intro n36
    induction n36 with
    | zero => intro k σ1 hn; exact absurd hn (Nat.not_lt_zero _)
    | succ n36 ih36 =>
      intro k σ1 hn36 hk hl1
      refine g_rg (fun hRL36 => ?_)
      refine g_iload6 X dL_law_36 ?_
      refine g_iconst X dL_law_38 ?_
      refine g_icmp_ge (tgt := 94) X (by first | exact hRL36 _ _ | exact hR28 _ _ | exact hR0 _ _ | assumption | (unfold InR; omega)) (by first | exact hRL36 _ _ | exact hR28 _ _ | exact hR0 _ _ | assumption | (unfold InR; omega)) dL_law_39 (by decide) (fun h39 => ?_) (fun h39 => ?_)
      · skip
        refine g_bipush X dL_law_94 (by decide +kernel) ?_
        refine g_aload0 X dL_law_96 ?_
        refine g_iconst X dL_law_97 ?_
        refine g_cell X hXs hL (k := 0) (by omega) gL_law_L_cell ⟨(Nat.le_of_ble_eq_true rfl), (Nat.le_of_ble_eq_true rfl)⟩ (Nat.le_of_ble_eq_true rfl) dL_law_98 (fun z98 hz98 => ?_)
        refine g_bipush X dL_law_101 (by decide +kernel) ?_
        refine g_LI2 X (k_L_low E (by omega)) gL_law_L_low rfl (by decide +kernel) (by decide) (Nat.le_of_ble_eq_true rfl) dL_law_103 (fun z103 σ103 hz103 hp103 => ?_)
        refine g_rg (fun hR103 => ?_)
        obtain ⟨b103, s103⟩ := hp103
        rw [s103]
        refine g_iadd X dL_law_106 ?_
        refine g_istore6 X dL_law_107 (by decide) (by first | exact Or.inl rfl | exact Or.inr ⟨_, rfl, rfl⟩) ?_
        refine g_iconst X dL_law_109 ?_
        refine g_istore7 X dL_law_110 (by decide) (by first | exact Or.inl rfl | exact Or.inr ⟨_, rfl, rfl⟩) ?_
        rw [hE]
        exact law_turns X0 hN hRM hXs0 hL had ⟨by omega, by omega⟩ fin _ 0 _ (Nat.lt_succ_self _) (by omega) hl1
      · skip
        refine g_iload5 X dL_law_42 ?_
        refine g_if_eq (tgt := 94) X (by first | exact hRL36 _ _ | exact hR28 _ _ | exact hR0 _ _ | assumption | (unfold InR; omega)) dL_law_44 (by decide) (fun h44 => ?_) (fun h44 => ?_)
        · skip
          exact absurd h44 (by decide) -- CLOSED
        · skip
          refine g_aload1 X dL_law_47 ?_
          refine g_aload2 X dL_law_48 ?_
          refine g_aload3 X dL_law_49 ?_
          refine g_aload4 X dL_law_50 ?_
          refine g_aload0 X dL_law_52 ?_
          refine g_iconst X dL_law_53 ?_
          refine g_iload6 X dL_law_54 ?_
          refine g_iadd X dL_law_56 ?_
          refine g_cell X hXs hL (k := (1 + k)) (by omega) gL_law_L_cell ⟨(Nat.le_of_ble_eq_true rfl), (Nat.le_of_ble_eq_true rfl)⟩ (Nat.le_of_ble_eq_true rfl) dL_law_57 (fun z57 hz57 => ?_)
          obtain ⟨u, hu, hub⟩ := and_max z57
          refine g_ldc X (z := 2147483647) (by decide +kernel) rfl dL_law_60 ?_
          refine g_iand X hu dL_law_62 ?_
          refine g_sipush X dL_law_63 (by decide +kernel) ?_
          refine g_idiv X (by unfold InR; omega) (by unfold InR; omega) (by omega) (by omega) dL_law_66 ?_
          refine g_sipush X dL_law_67 (by decide +kernel) ?_
          refine g_imul X dL_law_70 ?_
          refine g_iload6 X dL_law_71 ?_
          refine g_if_ne (tgt := 80) X (by first | exact hRL36 _ _ | exact hR28 _ _ | exact hR0 _ _ | assumption | (unfold InR; omega)) dL_law_73 (by decide) (fun h73 => ?_) (fun h73 => ?_)
          · skip
            refine g_iload6 X dL_law_80 ?_
            refine g_iadd X dL_law_82 ?_
            refine g_LI5 X (k_L_acts E hl1) gL_law_L_acts rfl (by decide +kernel) (by decide) (Nat.le_of_ble_eq_true rfl) dL_law_83 (fun z83 σ83 hz83 hp83 => ?_)
            refine g_rg (fun hR83 => ?_)
            obtain ⟨e83, l83⟩ := hp83
            rw [e83]
            refine g_istore5 X dL_law_86 (by decide) (by first | exact Or.inl rfl | exact Or.inr ⟨_, rfl, rfl⟩) ?_
            refine g_iinc6 X dL_law_88 (by decide) (by first | exact Or.inl rfl | exact Or.inr ⟨_, rfl, rfl⟩) ?_
            refine g_goto (tgt := 36) X dL_law_91 (by decide) ?_
            refine ih36 _ _ (by omega) ?_ ?_
            · omega
            · exact l83
          · skip
            refine g_iconst X dL_law_76 ?_
            refine g_goto (tgt := 82) X dL_law_77 (by decide) ?_
            refine g_iadd X dL_law_82 ?_
            refine g_LI5 X (k_L_acts E hl1) gL_law_L_acts rfl (by decide +kernel) (by decide) (Nat.le_of_ble_eq_true rfl) dL_law_83 (fun z83 σ83 hz83 hp83 => ?_)
            refine g_rg (fun hR83 => ?_)
            obtain ⟨e83, l83⟩ := hp83
            rw [e83]
            refine g_istore5 X dL_law_86 (by decide) (by first | exact Or.inl rfl | exact Or.inr ⟨_, rfl, rfl⟩) ?_
            refine g_iinc6 X dL_law_88 (by decide) (by first | exact Or.inl rfl | exact Or.inr ⟨_, rfl, rfl⟩) ?_
            refine g_goto (tgt := 36) X dL_law_91 (by decide) ?_
            refine ih36 _ _ (by omega) ?_ ?_
            · omega
            · exact l83
  refine L36 _ _ _ (Nat.lt_succ_self _) ?_ ?_
  · omega
  · exact l28
