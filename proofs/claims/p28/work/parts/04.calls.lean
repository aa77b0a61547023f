/-! MY CALLS: a contract in the layer's words, its proof's head, its use -/
def MGE (E : EV) (y : MethodName) (ws : List Cond) (fr lo : Nat) (ad : Int → Nat) (σ : St) (avs : List Value) (post : Option Int → St → Prop) : Prop := match E with
  | (p, l, e, R, s, m, args, below, meth, c, Q, D, cy, A, k, n) => MG l y ws fr lo D ad cy σ avs post
def PI (P : Int → St → Prop) : Option Int → St → Prop := fun r σ' => ∃ z, r = some z ∧ InR z ∧ P z σ'
def PV (P : St → Prop) : Option Int → St → Prop := fun r σ' => r = none ∧ P σ'
theorem MGE.of {E0 : EV} {y : MethodName} {ws ws' : List Cond} {fr lo : Nat} {ad : Int → Nat} {σ : St} {avs : List Value} {post : Option Int → St → Prop} {cc : ByteArray} {maxL : Nat} {ret : Option FieldType} {own : String} (lv0 : List (Option Value)) (hy : plainName y.cls = true) (hw : ws = Cond.code y cc maxL ret :: ws') (hown : y.cls = own) (hlen : avs.length ≤ maxL) (hcat0 : avs.all (fun v => v.category == 1) = true) (hlv0 : avs.map some ++ List.replicate (maxL - avs.length) none = lv0) (body : ∀ E : EV, Cx E ad cc maxL own ws fr lo → Rt E ad ret post → WG E ad maxL σ 0 lv0 []) : MGE E0 y ws fr lo ad σ avs post := by
  obtain ⟨p0, l, e0, R0, s0, m0, args0, below0, meth0, c0, Q0, D, cy, A0, k0, n0⟩ := E0
  show Met _ _ _ _ _ _ _ _ _
  have hcat : ∀ v ∈ avs, v.category = 1 := fun v hv => by
    have := List.all_eq_true.mp hcat0 v hv
    simpa using this
  have hlv : ∀ (i : Nat) (v : Value), lv0[i]? = some (some v) → avs[i]? = some v := by
    intro i v h
    rw [← hlv0] at h
    by_cases hi : i < avs.length
    · rw [List.getElem?_append_left (by simpa using hi), List.getElem?_map] at h
      cases h9 : avs[i]? with
      | none => rw [h9] at h; cases h
      | some x => rw [h9] at h; cases h; rfl
    · rw [List.getElem?_append_right (by simpa using hi), List.getElem?_replicate] at h
      split at h <;> cases h
  refine Met.ofW (cc := cc) (maxL := maxL) (ret := ret) hy hw ?_
  intro p e s m args below meth c s₁ B hml hv
  obtain ⟨rfl, hP, hK, hAp, hRG⟩ := hv
  have hts := atoms_spec (ws := ws) B.pre
  have hown1 : s.vm.findClass own = some m.cls := by rw [← hown]; exact findClass_of_methodNamed B.named
  have hsl : ∀ vs : List Value, (∀ v ∈ vs, v.category = 1) → (lg_sl vs).length = vs.length := by
    intro vs
    induction vs with
    | nil => intro _; rfl
    | cons a t ih =>
      intro h
      have h1 := ih (fun v hv => h v (List.mem_cons_of_mem _ hv))
      have h2 := h a List.mem_cons_self
      cases a <;> simp_all [lg_sl, Value.category]
  have hargs : ∀ (vs : List Value) (j : Nat), (∀ v ∈ vs, v.category = 1) → ∀ (i : Nat) (v : Value), vs[i]? = some v → (j + i, v) ∈ lv_args j vs := by
    intro vs
    induction vs with
    | nil => intro j _ i v h; simp at h
    | cons a t ih =>
      intro j h i v hi
      have h2 := h a List.mem_cons_self
      cases i with
      | zero =>
        simp at hi
        subst hi
        simp [lv_args]
      | succ i =>
        have h3 := ih (j + 1) (fun v hv => h v (List.mem_cons_of_mem _ hv)) i v (by simpa using hi)
        have e9 : j + (i + 1) = j + 1 + i := by omega
        rw [e9]
        unfold lv_args
        rw [h2]
        exact List.mem_cons_of_mem _ h3
  have hl := lv_entry avs (n := maxL) (by rw [hsl avs hcat]; exact hlen)
  rw [lg_entry_eq]
  have hb := body (p, l, e, (headSpec ws { frames := fr, cells := 0, slots := 0, locals := lo }).room, s, m, avs.toArray, below, meth, c, MQ below (GQ D ad cy post) avs.toArray s 0 0 (AA ad), D, cy, AA ad, 0, 0) ⟨B.exec, B.bytes, hml, hown1, hts, hK, hAp, fun q h1 h2 => ⟨q, h1, h2, rfl⟩, Nat.le_refl _, Nat.le_refl _, Nat.le_refl _, Nat.le_refl _⟩ ⟨B.returns, B.notSynchronized, rfl, rfl, rfl, rfl⟩
  exact hb hRG s.heap [] _ hP va_S.rf ⟨hl.1, hl.2.1, fun i v hv => hl.2.2 (i, v) (by
    have := hargs avs 0 hcat i v (hlv i v hv)
    rwa [Nat.zero_add] at this)⟩
section CALLS
variable {E : EV} {ad : Int → Nat} {cc : ByteArray} {nL : Nat} {own : String} {Ts : List Cond} {fr lo : Nat} {σ : St} {pc : Nat} {lv : List (Option Value)} {st : List Value}
/-- an object of a class -/
def Ob (q : Int) (C : String) : Prop := (0 ≤ q ∧ q < 82) ∧ ∃ (ci : Nat) (T : u_T) (N : Nat), vwCl[ci]? = some (C, T, N) ∧ ∀ (ad : Int → Nat) (cy : CY) (σ : St), ∃ fs, cel ad cy σ q = .inr (ci, fs)
theorem ob_TB {t : Int} (h : 0 ≤ t ∧ t < 6) : Ob (TB t) RX4 := ⟨by unfold TB; omega, 4, TX4, 4, rfl, fun ad cy σ => ⟨_, cel_TB h⟩⟩
theorem ob_0 : Ob 0 RX6 := ⟨by omega, 6, TX6, 6, rfl, fun ad cy σ => ⟨_, cel_0⟩⟩
theorem ob_1 : Ob 1 RX0 := ⟨by omega, 0, TX0, 2, rfl, fun ad cy σ => ⟨_, cel_1⟩⟩
theorem ob_3 : Ob 3 RX1 := ⟨by omega, 1, TX1, 4, rfl, fun ad cy σ => ⟨_, cel_3⟩⟩
theorem ob_6 : Ob 6 RX2 := ⟨by omega, 2, TX2, 3, rfl, fun ad cy σ => ⟨_, cel_6⟩⟩
theorem ob_8 : Ob 8 RX5 := ⟨by omega, 5, TX5, 2, rfl, fun ad cy σ => ⟨_, cel_8⟩⟩
theorem ob_10 : Ob 10 RX3 := ⟨by omega, 3, TX3, 4, rfl, fun ad cy σ => ⟨_, cel_10⟩⟩
/-- behind a call: the answer and the new state -/
theorem g_after {p : Program} {l : Launch} {e : Env} {R : Room} {s : State} {m : MethodId} {args : Array Value} {below : List Frame} {meth : Method} {c : Code} {Q : State → Prop} {D : va_G} {cy : CY} {A : Nat → Prop} {kc ks : Nat} {H : Heap} {locs : List Loc} {ls : Array Slot} {st0 : List Value} {a : Array Value} {post : Option Int → St → Prop} (hA : ∀ q : Int, 0 ≤ q → q < 83 → A (ad q)) (hr : va_Run p l e R s m args below meth c H locs kc ks 0 0 (F0 m pc ls st0) st (GQ D ad cy post a) (AA ad)) (hS : va_S A s.heap H locs) (hl : LV ls nL lv)
    (kk : ∀ (r : Option Int) (σ' : St), post r σ' → WG (p, l, e, R, s, m, args, below, meth, c, Q, D, cy, A, kc, ks) ad nL σ' (pc + 3) lv ((rO r).toList ++ st)) : W p l e R s m args below meth c H locs kc ks Q (F0 m pc ls st0) := by
  intro T hT X
  obtain ⟨v, st₀, t, T', L, h0, X', hL, e1, e2, ⟨⟨r, σ', hv, hp, hW⟩, hz, hk⟩, hst⟩ := hr T hT X
  cases hv
  rw [h0] at hz hk
  have hAA : ∀ q, AA ad q → A q := fun q h => by
    obtain ⟨x, h1, h2, h3⟩ := h
    rw [h3]
    exact hA x h1 h2
  obtain ⟨t2, a1, b1⟩ := kk r σ' hp hW.2.2.2 T'.heap (locs ++ L) ls (by rw [e1]; exact hW.1)
    ⟨Nat.le_trans hS.1 (by rw [e1]; exact hz), fun q h1 h2 => by rw [e1, hk q (Nat.lt_of_lt_of_le h1 hS.1) (fun z => h2 (hAA q z))]; exact hS.2.1 q h1 h2, fun q hq => by
      rcases List.mem_append.mp hq with h | h
      · exact hS.2.2 q h
      · exact hAA _ (hL q h)⟩ hl T' rfl X'
  exact ⟨t2, hst t2 a1, b1⟩
theorem g_callV (X : Cx E ad cc nL own Ts fr lo) {y : MethodName} {ws ws' : List Cond} {fr' lo' maxL n idx : Nat} {bytes : ByteArray} {ret : Option FieldType} {C : String} {q : Int} {As : List Value} {post : Option Int → St → Prop} (hM : MGE E y ws fr' lo' ad σ (.ref (ad q) :: As) post) (hG : GoodIn Ts (wsV own idx C y ws)) (hw : ws = Cond.code y bytes maxL ret :: ws') (hd : y.cls = C ∧ y.cls ≠ "java/lang/invoke/MethodHandle" ∧ y.cls ≠ "java/lang/invoke/VarHandle" ∧ (parseMethodDescriptor y.desc).map (fun d => d.parameters.length) = some n) (hn : As.length = n) (hR : fr' + 1 ≤ fr ∧ 8 + (maxL + 11) + lo' ≤ lo) (hO : Ob q C) (hcat : (st.map fun v => v.category).sum ≤ 8) (hdg : decode cc pc = .ok (.invokevirtual idx, 3))
    (kk : ∀ (r : Option Int) (σ' : St), post r σ' → WG E ad nL σ' (pc + 3) lv ((rO r).toList ++ st)) : WG E ad nL σ pc lv (As.reverse ++ .ref (ad q) :: st) := by
  obtain ⟨p, l, e, R, s, m, args, below, meth, c, Q, D, cy, A, kc, ks⟩ := E
  obtain ⟨hx, hb, hml, hown, hts, hK, hAp, hAA, hkc, hks, hfr, hlo⟩ := X
  intro hRG H locs ls hP hS hl
  obtain ⟨hq, ci, T, N, hcl, hc⟩ := hO
  obtain ⟨fs, hc⟩ := hc ad cy σ
  have h1 := gw_at (ad := ad) (cy := cy) (σ := σ) hq
  rw [hc] at h1
  have hrun := va_runV (p := p) (e := e) (R := R) (m := m) (below := below) (meth := meth) (locs := locs) (cells := kc) (slots := ks) (g := F0 m pc ls (As.reverse ++ .ref (ad q) :: st)) (As := As) (rest := st) ⟨hx, hb, hml, hown, hts⟩ hM (cwV n hts hG hw rfl rfl hd ⟨Nat.le_trans hR.1 hfr, Nat.le_trans hR.2 hlo⟩) ⟨fun a U g mk q => ⟨q.1, q.2.calling⟩, va_recv hK hP hcl h1, fun U hU hW => ⟨rfl, by rw [hU]; exact hP, va_K.moved hW.alike hK, hAp, hRG⟩⟩ rfl hn hl.1 rfl (lv_room hcat) hdg ⟨hkc, hks⟩
  exact g_after hAA hrun hS hl kk
theorem g_callS (X : Cx E ad cc nL own Ts fr lo) {y : MethodName} {ws ws' : List Cond} {fr' lo' maxL n idx : Nat} {bytes : ByteArray} {ret : Option FieldType} {As : List Value} {post : Option Int → St → Prop} (hM : MGE E y ws fr' lo' ad σ As post) (hG : GoodIn Ts (wsS own idx y ws)) (hw : ws = Cond.code y bytes maxL ret :: ws') (hd : y.cls = own ∧ y.cls ≠ "java/lang/invoke/MethodHandle" ∧ y.cls ≠ "java/lang/invoke/VarHandle" ∧ (parseMethodDescriptor y.desc).map (fun d => d.parameters.length) = some n) (hn : As.length = n) (hR : fr' + 1 ≤ fr ∧ 8 + (maxL + 11) + lo' ≤ lo) (hcat : (st.map fun v => v.category).sum ≤ 8) (hdg : decode cc pc = .ok (.invokestatic idx, 3))
    (kk : ∀ (r : Option Int) (σ' : St), post r σ' → WG E ad nL σ' (pc + 3) lv ((rO r).toList ++ st)) : WG E ad nL σ pc lv (As.reverse ++ st) := by
  obtain ⟨p, l, e, R, s, m, args, below, meth, c, Q, D, cy, A, kc, ks⟩ := E
  obtain ⟨hx, hb, hml, hown, hts, hK, hAp, hAA, hkc, hks, hfr, hlo⟩ := X
  intro hRG H locs ls hP hS hl
  have hrun := va_runS (p := p) (e := e) (R := R) (m := m) (below := below) (meth := meth) (locs := locs) (cells := kc) (slots := ks) (g := F0 m pc ls (As.reverse ++ st)) (As := As) (rest := st) ⟨hx, hb, hml, hown, hts⟩ hM (cwS n hts hG hw rfl rfl hd ⟨Nat.le_trans hR.1 hfr, Nat.le_trans hR.2 hlo⟩) ⟨fun a U g mk q => ⟨q.1, q.2.calling⟩, fun U hU hW => ⟨rfl, by rw [hU]; exact hP, va_K.moved hW.alike hK, hAp, hRG⟩⟩ rfl hn hl.1 rfl (lv_room hcat) hdg ⟨hkc, hks⟩
  exact g_after hAA hrun hS hl kk
theorem k_I {P : Int → St → Prop} {k : Option Int → St → Prop} (h : ∀ (z : Int) (σ' : St), InR z → P z σ' → k (some z) σ') : ∀ (r : Option Int) (σ' : St), PI P r σ' → k r σ' := by
  rintro r σ' ⟨z, rfl, h1, h2⟩
  exact h z σ' h1 h2
theorem k_V {P : St → Prop} {k : Option Int → St → Prop} (h : ∀ (σ' : St), P σ' → k none σ') : ∀ (r : Option Int) (σ' : St), PV P r σ' → k r σ' := by
  rintro r σ' ⟨rfl, h2⟩
  exact h σ' h2
/-! a call by how many arguments it has, and by its contract's kind: I a number, F a number and a state that are known, V nothing, W nothing and a state that is known -/
def PF (f : Int) (g : St) : Option Int → St → Prop := fun r σ' => r = some f ∧ InR f ∧ σ' = g
def PW (g : St) : Option Int → St → Prop := fun r σ' => r = none ∧ σ' = g
theorem k_F {f : Int} {g : St} {k : Option Int → St → Prop} (h : InR f → k (some f) g) : ∀ (r : Option Int) (σ' : St), PF f g r σ' → k r σ' := by
  rintro r σ' ⟨rfl, h1, rfl⟩
  exact h h1
theorem k_W {g : St} {k : Option Int → St → Prop} (h : k none g) : ∀ (r : Option Int) (σ' : St), PW g r σ' → k r σ' := by
  rintro r σ' ⟨rfl, rfl⟩
  exact h
theorem g_I0 (X : Cx E ad cc nL own Ts fr lo) {y : MethodName} {ws ws' : List Cond} {fr' lo' maxL idx : Nat} {bytes : ByteArray} {ret : Option FieldType} {C : String} {q : Int} {P : Int → St → Prop} (hM : MGE E y ws fr' lo' ad σ [.ref (ad q)] (PI P)) (hG : GoodIn Ts (wsV own idx C y ws)) (hw : ws = Cond.code y bytes maxL ret :: ws') (hd : y.cls = C ∧ y.cls ≠ "java/lang/invoke/MethodHandle" ∧ y.cls ≠ "java/lang/invoke/VarHandle" ∧ (parseMethodDescriptor y.desc).map (fun d => d.parameters.length) = some 0) (hR : fr' + 1 ≤ fr ∧ 8 + (maxL + 11) + lo' ≤ lo) (hO : Ob q C) (hcat : (st.map fun v => v.category).sum ≤ 8) (hdg : decode cc pc = .ok (.invokevirtual idx, 3)) (kk : ∀ (z : Int) (σ' : St), InR z → P z σ' → WG E ad nL σ' (pc + 3) lv (.int (iI z) :: st)) : WG E ad nL σ pc lv (.ref (ad q) :: st) :=
  g_callV X (As := []) hM hG hw hd rfl hR hO hcat hdg (k_I (k := fun r σ' => WG E ad nL σ' (pc + 3) lv ((rO r).toList ++ st)) kk)
theorem g_F0 (X : Cx E ad cc nL own Ts fr lo) {y : MethodName} {ws ws' : List Cond} {fr' lo' maxL idx : Nat} {bytes : ByteArray} {ret : Option FieldType} {C : String} {q : Int} {f : Int} {g : St} (hM : MGE E y ws fr' lo' ad σ [.ref (ad q)] (PF f g)) (hG : GoodIn Ts (wsV own idx C y ws)) (hw : ws = Cond.code y bytes maxL ret :: ws') (hd : y.cls = C ∧ y.cls ≠ "java/lang/invoke/MethodHandle" ∧ y.cls ≠ "java/lang/invoke/VarHandle" ∧ (parseMethodDescriptor y.desc).map (fun d => d.parameters.length) = some 0) (hR : fr' + 1 ≤ fr ∧ 8 + (maxL + 11) + lo' ≤ lo) (hO : Ob q C) (hcat : (st.map fun v => v.category).sum ≤ 8) (hdg : decode cc pc = .ok (.invokevirtual idx, 3)) (kk : InR f → WG E ad nL g (pc + 3) lv (.int (iI f) :: st)) : WG E ad nL σ pc lv (.ref (ad q) :: st) :=
  g_callV X (As := []) hM hG hw hd rfl hR hO hcat hdg (k_F (k := fun r σ' => WG E ad nL σ' (pc + 3) lv ((rO r).toList ++ st)) kk)
theorem g_V0 (X : Cx E ad cc nL own Ts fr lo) {y : MethodName} {ws ws' : List Cond} {fr' lo' maxL idx : Nat} {bytes : ByteArray} {ret : Option FieldType} {C : String} {q : Int} {P : St → Prop} (hM : MGE E y ws fr' lo' ad σ [.ref (ad q)] (PV P)) (hG : GoodIn Ts (wsV own idx C y ws)) (hw : ws = Cond.code y bytes maxL ret :: ws') (hd : y.cls = C ∧ y.cls ≠ "java/lang/invoke/MethodHandle" ∧ y.cls ≠ "java/lang/invoke/VarHandle" ∧ (parseMethodDescriptor y.desc).map (fun d => d.parameters.length) = some 0) (hR : fr' + 1 ≤ fr ∧ 8 + (maxL + 11) + lo' ≤ lo) (hO : Ob q C) (hcat : (st.map fun v => v.category).sum ≤ 8) (hdg : decode cc pc = .ok (.invokevirtual idx, 3)) (kk : ∀ (σ' : St), P σ' → WG E ad nL σ' (pc + 3) lv st) : WG E ad nL σ pc lv (.ref (ad q) :: st) :=
  g_callV X (As := []) hM hG hw hd rfl hR hO hcat hdg (k_V (k := fun r σ' => WG E ad nL σ' (pc + 3) lv ((rO r).toList ++ st)) kk)
theorem g_W0 (X : Cx E ad cc nL own Ts fr lo) {y : MethodName} {ws ws' : List Cond} {fr' lo' maxL idx : Nat} {bytes : ByteArray} {ret : Option FieldType} {C : String} {q : Int} {g : St} (hM : MGE E y ws fr' lo' ad σ [.ref (ad q)] (PW g)) (hG : GoodIn Ts (wsV own idx C y ws)) (hw : ws = Cond.code y bytes maxL ret :: ws') (hd : y.cls = C ∧ y.cls ≠ "java/lang/invoke/MethodHandle" ∧ y.cls ≠ "java/lang/invoke/VarHandle" ∧ (parseMethodDescriptor y.desc).map (fun d => d.parameters.length) = some 0) (hR : fr' + 1 ≤ fr ∧ 8 + (maxL + 11) + lo' ≤ lo) (hO : Ob q C) (hcat : (st.map fun v => v.category).sum ≤ 8) (hdg : decode cc pc = .ok (.invokevirtual idx, 3)) (kk : WG E ad nL g (pc + 3) lv st) : WG E ad nL σ pc lv (.ref (ad q) :: st) :=
  g_callV X (As := []) hM hG hw hd rfl hR hO hcat hdg (k_W (k := fun r σ' => WG E ad nL σ' (pc + 3) lv ((rO r).toList ++ st)) kk)
theorem g_I1 (X : Cx E ad cc nL own Ts fr lo) {y : MethodName} {ws ws' : List Cond} {fr' lo' maxL idx : Nat} {bytes : ByteArray} {ret : Option FieldType} {C : String} {q : Int} {a1 : Value} {P : Int → St → Prop} (hM : MGE E y ws fr' lo' ad σ [.ref (ad q), a1] (PI P)) (hG : GoodIn Ts (wsV own idx C y ws)) (hw : ws = Cond.code y bytes maxL ret :: ws') (hd : y.cls = C ∧ y.cls ≠ "java/lang/invoke/MethodHandle" ∧ y.cls ≠ "java/lang/invoke/VarHandle" ∧ (parseMethodDescriptor y.desc).map (fun d => d.parameters.length) = some 1) (hR : fr' + 1 ≤ fr ∧ 8 + (maxL + 11) + lo' ≤ lo) (hO : Ob q C) (hcat : (st.map fun v => v.category).sum ≤ 8) (hdg : decode cc pc = .ok (.invokevirtual idx, 3)) (kk : ∀ (z : Int) (σ' : St), InR z → P z σ' → WG E ad nL σ' (pc + 3) lv (.int (iI z) :: st)) : WG E ad nL σ pc lv (a1 :: .ref (ad q) :: st) :=
  g_callV X (As := [a1]) hM hG hw hd rfl hR hO hcat hdg (k_I (k := fun r σ' => WG E ad nL σ' (pc + 3) lv ((rO r).toList ++ st)) kk)
theorem g_SI1 (X : Cx E ad cc nL own Ts fr lo) {y : MethodName} {ws ws' : List Cond} {fr' lo' maxL idx : Nat} {bytes : ByteArray} {ret : Option FieldType} {a1 : Value} {P : Int → St → Prop} (hM : MGE E y ws fr' lo' ad σ [a1] (PI P)) (hG : GoodIn Ts (wsS own idx y ws)) (hw : ws = Cond.code y bytes maxL ret :: ws') (hd : y.cls = own ∧ y.cls ≠ "java/lang/invoke/MethodHandle" ∧ y.cls ≠ "java/lang/invoke/VarHandle" ∧ (parseMethodDescriptor y.desc).map (fun d => d.parameters.length) = some 1) (hR : fr' + 1 ≤ fr ∧ 8 + (maxL + 11) + lo' ≤ lo) (hcat : (st.map fun v => v.category).sum ≤ 8) (hdg : decode cc pc = .ok (.invokestatic idx, 3)) (kk : ∀ (z : Int) (σ' : St), InR z → P z σ' → WG E ad nL σ' (pc + 3) lv (.int (iI z) :: st)) : WG E ad nL σ pc lv (a1 :: st) :=
  g_callS X (As := [a1]) hM hG hw hd rfl hR hcat hdg (k_I (k := fun r σ' => WG E ad nL σ' (pc + 3) lv ((rO r).toList ++ st)) kk)
theorem g_F1 (X : Cx E ad cc nL own Ts fr lo) {y : MethodName} {ws ws' : List Cond} {fr' lo' maxL idx : Nat} {bytes : ByteArray} {ret : Option FieldType} {C : String} {q : Int} {a1 : Value} {f : Int} {g : St} (hM : MGE E y ws fr' lo' ad σ [.ref (ad q), a1] (PF f g)) (hG : GoodIn Ts (wsV own idx C y ws)) (hw : ws = Cond.code y bytes maxL ret :: ws') (hd : y.cls = C ∧ y.cls ≠ "java/lang/invoke/MethodHandle" ∧ y.cls ≠ "java/lang/invoke/VarHandle" ∧ (parseMethodDescriptor y.desc).map (fun d => d.parameters.length) = some 1) (hR : fr' + 1 ≤ fr ∧ 8 + (maxL + 11) + lo' ≤ lo) (hO : Ob q C) (hcat : (st.map fun v => v.category).sum ≤ 8) (hdg : decode cc pc = .ok (.invokevirtual idx, 3)) (kk : InR f → WG E ad nL g (pc + 3) lv (.int (iI f) :: st)) : WG E ad nL σ pc lv (a1 :: .ref (ad q) :: st) :=
  g_callV X (As := [a1]) hM hG hw hd rfl hR hO hcat hdg (k_F (k := fun r σ' => WG E ad nL σ' (pc + 3) lv ((rO r).toList ++ st)) kk)
theorem g_SF1 (X : Cx E ad cc nL own Ts fr lo) {y : MethodName} {ws ws' : List Cond} {fr' lo' maxL idx : Nat} {bytes : ByteArray} {ret : Option FieldType} {a1 : Value} {f : Int} {g : St} (hM : MGE E y ws fr' lo' ad σ [a1] (PF f g)) (hG : GoodIn Ts (wsS own idx y ws)) (hw : ws = Cond.code y bytes maxL ret :: ws') (hd : y.cls = own ∧ y.cls ≠ "java/lang/invoke/MethodHandle" ∧ y.cls ≠ "java/lang/invoke/VarHandle" ∧ (parseMethodDescriptor y.desc).map (fun d => d.parameters.length) = some 1) (hR : fr' + 1 ≤ fr ∧ 8 + (maxL + 11) + lo' ≤ lo) (hcat : (st.map fun v => v.category).sum ≤ 8) (hdg : decode cc pc = .ok (.invokestatic idx, 3)) (kk : InR f → WG E ad nL g (pc + 3) lv (.int (iI f) :: st)) : WG E ad nL σ pc lv (a1 :: st) :=
  g_callS X (As := [a1]) hM hG hw hd rfl hR hcat hdg (k_F (k := fun r σ' => WG E ad nL σ' (pc + 3) lv ((rO r).toList ++ st)) kk)
theorem g_V1 (X : Cx E ad cc nL own Ts fr lo) {y : MethodName} {ws ws' : List Cond} {fr' lo' maxL idx : Nat} {bytes : ByteArray} {ret : Option FieldType} {C : String} {q : Int} {a1 : Value} {P : St → Prop} (hM : MGE E y ws fr' lo' ad σ [.ref (ad q), a1] (PV P)) (hG : GoodIn Ts (wsV own idx C y ws)) (hw : ws = Cond.code y bytes maxL ret :: ws') (hd : y.cls = C ∧ y.cls ≠ "java/lang/invoke/MethodHandle" ∧ y.cls ≠ "java/lang/invoke/VarHandle" ∧ (parseMethodDescriptor y.desc).map (fun d => d.parameters.length) = some 1) (hR : fr' + 1 ≤ fr ∧ 8 + (maxL + 11) + lo' ≤ lo) (hO : Ob q C) (hcat : (st.map fun v => v.category).sum ≤ 8) (hdg : decode cc pc = .ok (.invokevirtual idx, 3)) (kk : ∀ (σ' : St), P σ' → WG E ad nL σ' (pc + 3) lv st) : WG E ad nL σ pc lv (a1 :: .ref (ad q) :: st) :=
  g_callV X (As := [a1]) hM hG hw hd rfl hR hO hcat hdg (k_V (k := fun r σ' => WG E ad nL σ' (pc + 3) lv ((rO r).toList ++ st)) kk)
theorem g_W1 (X : Cx E ad cc nL own Ts fr lo) {y : MethodName} {ws ws' : List Cond} {fr' lo' maxL idx : Nat} {bytes : ByteArray} {ret : Option FieldType} {C : String} {q : Int} {a1 : Value} {g : St} (hM : MGE E y ws fr' lo' ad σ [.ref (ad q), a1] (PW g)) (hG : GoodIn Ts (wsV own idx C y ws)) (hw : ws = Cond.code y bytes maxL ret :: ws') (hd : y.cls = C ∧ y.cls ≠ "java/lang/invoke/MethodHandle" ∧ y.cls ≠ "java/lang/invoke/VarHandle" ∧ (parseMethodDescriptor y.desc).map (fun d => d.parameters.length) = some 1) (hR : fr' + 1 ≤ fr ∧ 8 + (maxL + 11) + lo' ≤ lo) (hO : Ob q C) (hcat : (st.map fun v => v.category).sum ≤ 8) (hdg : decode cc pc = .ok (.invokevirtual idx, 3)) (kk : WG E ad nL g (pc + 3) lv st) : WG E ad nL σ pc lv (a1 :: .ref (ad q) :: st) :=
  g_callV X (As := [a1]) hM hG hw hd rfl hR hO hcat hdg (k_W (k := fun r σ' => WG E ad nL σ' (pc + 3) lv ((rO r).toList ++ st)) kk)
theorem g_I2 (X : Cx E ad cc nL own Ts fr lo) {y : MethodName} {ws ws' : List Cond} {fr' lo' maxL idx : Nat} {bytes : ByteArray} {ret : Option FieldType} {C : String} {q : Int} {a1 a2 : Value} {P : Int → St → Prop} (hM : MGE E y ws fr' lo' ad σ [.ref (ad q), a1, a2] (PI P)) (hG : GoodIn Ts (wsV own idx C y ws)) (hw : ws = Cond.code y bytes maxL ret :: ws') (hd : y.cls = C ∧ y.cls ≠ "java/lang/invoke/MethodHandle" ∧ y.cls ≠ "java/lang/invoke/VarHandle" ∧ (parseMethodDescriptor y.desc).map (fun d => d.parameters.length) = some 2) (hR : fr' + 1 ≤ fr ∧ 8 + (maxL + 11) + lo' ≤ lo) (hO : Ob q C) (hcat : (st.map fun v => v.category).sum ≤ 8) (hdg : decode cc pc = .ok (.invokevirtual idx, 3)) (kk : ∀ (z : Int) (σ' : St), InR z → P z σ' → WG E ad nL σ' (pc + 3) lv (.int (iI z) :: st)) : WG E ad nL σ pc lv (a2 :: a1 :: .ref (ad q) :: st) :=
  g_callV X (As := [a1, a2]) hM hG hw hd rfl hR hO hcat hdg (k_I (k := fun r σ' => WG E ad nL σ' (pc + 3) lv ((rO r).toList ++ st)) kk)
theorem g_F2 (X : Cx E ad cc nL own Ts fr lo) {y : MethodName} {ws ws' : List Cond} {fr' lo' maxL idx : Nat} {bytes : ByteArray} {ret : Option FieldType} {C : String} {q : Int} {a1 a2 : Value} {f : Int} {g : St} (hM : MGE E y ws fr' lo' ad σ [.ref (ad q), a1, a2] (PF f g)) (hG : GoodIn Ts (wsV own idx C y ws)) (hw : ws = Cond.code y bytes maxL ret :: ws') (hd : y.cls = C ∧ y.cls ≠ "java/lang/invoke/MethodHandle" ∧ y.cls ≠ "java/lang/invoke/VarHandle" ∧ (parseMethodDescriptor y.desc).map (fun d => d.parameters.length) = some 2) (hR : fr' + 1 ≤ fr ∧ 8 + (maxL + 11) + lo' ≤ lo) (hO : Ob q C) (hcat : (st.map fun v => v.category).sum ≤ 8) (hdg : decode cc pc = .ok (.invokevirtual idx, 3)) (kk : InR f → WG E ad nL g (pc + 3) lv (.int (iI f) :: st)) : WG E ad nL σ pc lv (a2 :: a1 :: .ref (ad q) :: st) :=
  g_callV X (As := [a1, a2]) hM hG hw hd rfl hR hO hcat hdg (k_F (k := fun r σ' => WG E ad nL σ' (pc + 3) lv ((rO r).toList ++ st)) kk)
theorem g_V2 (X : Cx E ad cc nL own Ts fr lo) {y : MethodName} {ws ws' : List Cond} {fr' lo' maxL idx : Nat} {bytes : ByteArray} {ret : Option FieldType} {C : String} {q : Int} {a1 a2 : Value} {P : St → Prop} (hM : MGE E y ws fr' lo' ad σ [.ref (ad q), a1, a2] (PV P)) (hG : GoodIn Ts (wsV own idx C y ws)) (hw : ws = Cond.code y bytes maxL ret :: ws') (hd : y.cls = C ∧ y.cls ≠ "java/lang/invoke/MethodHandle" ∧ y.cls ≠ "java/lang/invoke/VarHandle" ∧ (parseMethodDescriptor y.desc).map (fun d => d.parameters.length) = some 2) (hR : fr' + 1 ≤ fr ∧ 8 + (maxL + 11) + lo' ≤ lo) (hO : Ob q C) (hcat : (st.map fun v => v.category).sum ≤ 8) (hdg : decode cc pc = .ok (.invokevirtual idx, 3)) (kk : ∀ (σ' : St), P σ' → WG E ad nL σ' (pc + 3) lv st) : WG E ad nL σ pc lv (a2 :: a1 :: .ref (ad q) :: st) :=
  g_callV X (As := [a1, a2]) hM hG hw hd rfl hR hO hcat hdg (k_V (k := fun r σ' => WG E ad nL σ' (pc + 3) lv ((rO r).toList ++ st)) kk)
theorem g_W2 (X : Cx E ad cc nL own Ts fr lo) {y : MethodName} {ws ws' : List Cond} {fr' lo' maxL idx : Nat} {bytes : ByteArray} {ret : Option FieldType} {C : String} {q : Int} {a1 a2 : Value} {g : St} (hM : MGE E y ws fr' lo' ad σ [.ref (ad q), a1, a2] (PW g)) (hG : GoodIn Ts (wsV own idx C y ws)) (hw : ws = Cond.code y bytes maxL ret :: ws') (hd : y.cls = C ∧ y.cls ≠ "java/lang/invoke/MethodHandle" ∧ y.cls ≠ "java/lang/invoke/VarHandle" ∧ (parseMethodDescriptor y.desc).map (fun d => d.parameters.length) = some 2) (hR : fr' + 1 ≤ fr ∧ 8 + (maxL + 11) + lo' ≤ lo) (hO : Ob q C) (hcat : (st.map fun v => v.category).sum ≤ 8) (hdg : decode cc pc = .ok (.invokevirtual idx, 3)) (kk : WG E ad nL g (pc + 3) lv st) : WG E ad nL σ pc lv (a2 :: a1 :: .ref (ad q) :: st) :=
  g_callV X (As := [a1, a2]) hM hG hw hd rfl hR hO hcat hdg (k_W (k := fun r σ' => WG E ad nL σ' (pc + 3) lv ((rO r).toList ++ st)) kk)
theorem g_I3 (X : Cx E ad cc nL own Ts fr lo) {y : MethodName} {ws ws' : List Cond} {fr' lo' maxL idx : Nat} {bytes : ByteArray} {ret : Option FieldType} {C : String} {q : Int} {a1 a2 a3 : Value} {P : Int → St → Prop} (hM : MGE E y ws fr' lo' ad σ [.ref (ad q), a1, a2, a3] (PI P)) (hG : GoodIn Ts (wsV own idx C y ws)) (hw : ws = Cond.code y bytes maxL ret :: ws') (hd : y.cls = C ∧ y.cls ≠ "java/lang/invoke/MethodHandle" ∧ y.cls ≠ "java/lang/invoke/VarHandle" ∧ (parseMethodDescriptor y.desc).map (fun d => d.parameters.length) = some 3) (hR : fr' + 1 ≤ fr ∧ 8 + (maxL + 11) + lo' ≤ lo) (hO : Ob q C) (hcat : (st.map fun v => v.category).sum ≤ 8) (hdg : decode cc pc = .ok (.invokevirtual idx, 3)) (kk : ∀ (z : Int) (σ' : St), InR z → P z σ' → WG E ad nL σ' (pc + 3) lv (.int (iI z) :: st)) : WG E ad nL σ pc lv (a3 :: a2 :: a1 :: .ref (ad q) :: st) :=
  g_callV X (As := [a1, a2, a3]) hM hG hw hd rfl hR hO hcat hdg (k_I (k := fun r σ' => WG E ad nL σ' (pc + 3) lv ((rO r).toList ++ st)) kk)
theorem g_SI3 (X : Cx E ad cc nL own Ts fr lo) {y : MethodName} {ws ws' : List Cond} {fr' lo' maxL idx : Nat} {bytes : ByteArray} {ret : Option FieldType} {a1 a2 a3 : Value} {P : Int → St → Prop} (hM : MGE E y ws fr' lo' ad σ [a1, a2, a3] (PI P)) (hG : GoodIn Ts (wsS own idx y ws)) (hw : ws = Cond.code y bytes maxL ret :: ws') (hd : y.cls = own ∧ y.cls ≠ "java/lang/invoke/MethodHandle" ∧ y.cls ≠ "java/lang/invoke/VarHandle" ∧ (parseMethodDescriptor y.desc).map (fun d => d.parameters.length) = some 3) (hR : fr' + 1 ≤ fr ∧ 8 + (maxL + 11) + lo' ≤ lo) (hcat : (st.map fun v => v.category).sum ≤ 8) (hdg : decode cc pc = .ok (.invokestatic idx, 3)) (kk : ∀ (z : Int) (σ' : St), InR z → P z σ' → WG E ad nL σ' (pc + 3) lv (.int (iI z) :: st)) : WG E ad nL σ pc lv (a3 :: a2 :: a1 :: st) :=
  g_callS X (As := [a1, a2, a3]) hM hG hw hd rfl hR hcat hdg (k_I (k := fun r σ' => WG E ad nL σ' (pc + 3) lv ((rO r).toList ++ st)) kk)
theorem g_F3 (X : Cx E ad cc nL own Ts fr lo) {y : MethodName} {ws ws' : List Cond} {fr' lo' maxL idx : Nat} {bytes : ByteArray} {ret : Option FieldType} {C : String} {q : Int} {a1 a2 a3 : Value} {f : Int} {g : St} (hM : MGE E y ws fr' lo' ad σ [.ref (ad q), a1, a2, a3] (PF f g)) (hG : GoodIn Ts (wsV own idx C y ws)) (hw : ws = Cond.code y bytes maxL ret :: ws') (hd : y.cls = C ∧ y.cls ≠ "java/lang/invoke/MethodHandle" ∧ y.cls ≠ "java/lang/invoke/VarHandle" ∧ (parseMethodDescriptor y.desc).map (fun d => d.parameters.length) = some 3) (hR : fr' + 1 ≤ fr ∧ 8 + (maxL + 11) + lo' ≤ lo) (hO : Ob q C) (hcat : (st.map fun v => v.category).sum ≤ 8) (hdg : decode cc pc = .ok (.invokevirtual idx, 3)) (kk : InR f → WG E ad nL g (pc + 3) lv (.int (iI f) :: st)) : WG E ad nL σ pc lv (a3 :: a2 :: a1 :: .ref (ad q) :: st) :=
  g_callV X (As := [a1, a2, a3]) hM hG hw hd rfl hR hO hcat hdg (k_F (k := fun r σ' => WG E ad nL σ' (pc + 3) lv ((rO r).toList ++ st)) kk)
theorem g_SF3 (X : Cx E ad cc nL own Ts fr lo) {y : MethodName} {ws ws' : List Cond} {fr' lo' maxL idx : Nat} {bytes : ByteArray} {ret : Option FieldType} {a1 a2 a3 : Value} {f : Int} {g : St} (hM : MGE E y ws fr' lo' ad σ [a1, a2, a3] (PF f g)) (hG : GoodIn Ts (wsS own idx y ws)) (hw : ws = Cond.code y bytes maxL ret :: ws') (hd : y.cls = own ∧ y.cls ≠ "java/lang/invoke/MethodHandle" ∧ y.cls ≠ "java/lang/invoke/VarHandle" ∧ (parseMethodDescriptor y.desc).map (fun d => d.parameters.length) = some 3) (hR : fr' + 1 ≤ fr ∧ 8 + (maxL + 11) + lo' ≤ lo) (hcat : (st.map fun v => v.category).sum ≤ 8) (hdg : decode cc pc = .ok (.invokestatic idx, 3)) (kk : InR f → WG E ad nL g (pc + 3) lv (.int (iI f) :: st)) : WG E ad nL σ pc lv (a3 :: a2 :: a1 :: st) :=
  g_callS X (As := [a1, a2, a3]) hM hG hw hd rfl hR hcat hdg (k_F (k := fun r σ' => WG E ad nL σ' (pc + 3) lv ((rO r).toList ++ st)) kk)
theorem g_V3 (X : Cx E ad cc nL own Ts fr lo) {y : MethodName} {ws ws' : List Cond} {fr' lo' maxL idx : Nat} {bytes : ByteArray} {ret : Option FieldType} {C : String} {q : Int} {a1 a2 a3 : Value} {P : St → Prop} (hM : MGE E y ws fr' lo' ad σ [.ref (ad q), a1, a2, a3] (PV P)) (hG : GoodIn Ts (wsV own idx C y ws)) (hw : ws = Cond.code y bytes maxL ret :: ws') (hd : y.cls = C ∧ y.cls ≠ "java/lang/invoke/MethodHandle" ∧ y.cls ≠ "java/lang/invoke/VarHandle" ∧ (parseMethodDescriptor y.desc).map (fun d => d.parameters.length) = some 3) (hR : fr' + 1 ≤ fr ∧ 8 + (maxL + 11) + lo' ≤ lo) (hO : Ob q C) (hcat : (st.map fun v => v.category).sum ≤ 8) (hdg : decode cc pc = .ok (.invokevirtual idx, 3)) (kk : ∀ (σ' : St), P σ' → WG E ad nL σ' (pc + 3) lv st) : WG E ad nL σ pc lv (a3 :: a2 :: a1 :: .ref (ad q) :: st) :=
  g_callV X (As := [a1, a2, a3]) hM hG hw hd rfl hR hO hcat hdg (k_V (k := fun r σ' => WG E ad nL σ' (pc + 3) lv ((rO r).toList ++ st)) kk)
theorem g_W3 (X : Cx E ad cc nL own Ts fr lo) {y : MethodName} {ws ws' : List Cond} {fr' lo' maxL idx : Nat} {bytes : ByteArray} {ret : Option FieldType} {C : String} {q : Int} {a1 a2 a3 : Value} {g : St} (hM : MGE E y ws fr' lo' ad σ [.ref (ad q), a1, a2, a3] (PW g)) (hG : GoodIn Ts (wsV own idx C y ws)) (hw : ws = Cond.code y bytes maxL ret :: ws') (hd : y.cls = C ∧ y.cls ≠ "java/lang/invoke/MethodHandle" ∧ y.cls ≠ "java/lang/invoke/VarHandle" ∧ (parseMethodDescriptor y.desc).map (fun d => d.parameters.length) = some 3) (hR : fr' + 1 ≤ fr ∧ 8 + (maxL + 11) + lo' ≤ lo) (hO : Ob q C) (hcat : (st.map fun v => v.category).sum ≤ 8) (hdg : decode cc pc = .ok (.invokevirtual idx, 3)) (kk : WG E ad nL g (pc + 3) lv st) : WG E ad nL σ pc lv (a3 :: a2 :: a1 :: .ref (ad q) :: st) :=
  g_callV X (As := [a1, a2, a3]) hM hG hw hd rfl hR hO hcat hdg (k_W (k := fun r σ' => WG E ad nL σ' (pc + 3) lv ((rO r).toList ++ st)) kk)
/-! ends -/
theorem g_iret (X : Cx E ad cc nL own Ts fr lo) {P : Int → St → Prop} {z : Int} (hr : Rt E ad (some .int) (PI P)) (hz : InR z) (hp : P z σ) (hdg : decode cc pc = .ok (.ireturn, 1)) : WG E ad nL σ pc lv [.int (iI z)] := by
  obtain ⟨p, l, e, R, s, m, args, below, meth, c, Q, D, cy, A, kc, ks⟩ := E
  obtain ⟨hx, hb, hml, hown, hts, hK, hAp, hAA, hkc, hks, hfr, hlo⟩ := X
  obtain ⟨h1, h2, rfl, rfl, -, -⟩ := hr
  intro hRG H locs ls hP hS hl
  exact W.iret (v := iI z) hx hb h1 (fun t ht hW => ⟨⟨some z, σ, rfl, ⟨z, rfl, hz, hp⟩, by rw [ht]; exact hP, va_K.moved hW.alike hK, hAp, hRG⟩, hS.F ht⟩) hS.2.2 hdg h2
theorem g_zret (X : Cx E ad cc nL own Ts fr lo) {P : Int → St → Prop} {z : Int} (hr : Rt E ad (some .boolean) (PI P)) (hz : z = 0 ∨ z = 1) (hp : P z σ) (hdg : decode cc pc = .ok (.ireturn, 1)) : WG E ad nL σ pc lv [.int (iI z)] := by
  obtain ⟨p, l, e, R, s, m, args, below, meth, c, Q, D, cy, A, kc, ks⟩ := E
  obtain ⟨hx, hb, hml, hown, hts, hK, hAp, hAA, hkc, hks, hfr, hlo⟩ := X
  obtain ⟨h1, h2, rfl, rfl, -, -⟩ := hr
  intro hRG H locs ls hP hS hl
  have hn : narrow .boolean (.int (iI z)) = .int (iI z) := by rcases hz with rfl | rfl <;> rfl
  exact W.zret (v := iI z) hx hb h1 hn (fun t ht hW => ⟨⟨some z, σ, rfl, ⟨z, rfl, by rcases hz with rfl | rfl <;> exact ⟨by omega, by omega⟩, hp⟩, by rw [ht]; exact hP, va_K.moved hW.alike hK, hAp, hRG⟩, hS.F ht⟩) hS.2.2 hdg h2
theorem g_vret (X : Cx E ad cc nL own Ts fr lo) {P : St → Prop} (hr : Rt E ad none (PV P)) (hp : P σ) (hdg : decode cc pc = .ok (.return_, 1)) : WG E ad nL σ pc lv [] := by
  obtain ⟨p, l, e, R, s, m, args, below, meth, c, Q, D, cy, A, kc, ks⟩ := E
  obtain ⟨hx, hb, hml, hown, hts, hK, hAp, hAA, hkc, hks, hfr, hlo⟩ := X
  obtain ⟨h1, h2, rfl, rfl, -, -⟩ := hr
  intro hRG H locs ls hP hS hl
  exact W.vret hx hb h1 (fun t ht hW => ⟨⟨none, σ, rfl, ⟨rfl, hp⟩, by rw [ht]; exact hP, va_K.moved hW.alike hK, hAp, hRG⟩, hS.F ht⟩) hS.2.2 hdg h2
theorem p_F {f : Int} {g : St} : PF f g = PI (fun z σ' => z = f ∧ σ' = g) := by
  funext r σ'
  apply propext
  constructor
  · rintro ⟨rfl, h1, rfl⟩
    exact ⟨f, rfl, h1, rfl, rfl⟩
  · rintro ⟨z, rfl, h1, rfl, rfl⟩
    exact ⟨rfl, h1, rfl⟩
theorem p_W {g : St} : PW g = PV (fun σ' => σ' = g) := rfl
theorem g_iretF (X : Cx E ad cc nL own Ts fr lo) {f z : Int} {g : St} (hr : Rt E ad (some .int) (PF f g)) (hz : InR z) (hp : z = f ∧ σ = g) (hdg : decode cc pc = .ok (.ireturn, 1)) : WG E ad nL σ pc lv [.int (iI z)] := by
  rw [p_F] at hr
  exact g_iret X hr hz hp hdg
theorem g_zretF (X : Cx E ad cc nL own Ts fr lo) {f z : Int} {g : St} (hr : Rt E ad (some .boolean) (PF f g)) (hz : z = 0 ∨ z = 1) (hp : z = f ∧ σ = g) (hdg : decode cc pc = .ok (.ireturn, 1)) : WG E ad nL σ pc lv [.int (iI z)] := by
  rw [p_F] at hr
  exact g_zret X hr hz hp hdg
theorem g_vretW (X : Cx E ad cc nL own Ts fr lo) {g : St} (hr : Rt E ad none (PW g)) (hp : σ = g) (hdg : decode cc pc = .ok (.return_, 1)) : WG E ad nL σ pc lv [] := g_vret X (P := fun σ' => σ' = g) hr hp hdg
/-! Math.min, Math.max -/
theorem g_min (X : Cx E ad cc nL own Ts fr lo) {idx : Nat} {a b : Int} (ha : InR a) (hb0 : InR b) (h1 : Cond.methodLink own idx Lib.Math.min.name ∈ Ts) (h2 : Cond.static Lib.Math.min.name ∈ Ts) (h3 : Cond.initialized "java/lang/Math" ∈ Ts) (h4 : Cond.code Lib.Math.min.name Lib.Math.min.code 2 (some .int) ∈ Ts) (hR : 1 ≤ fr ∧ 21 ≤ lo) (hcat : (st.map fun v => v.category).sum ≤ 8) (hdg : decode cc pc = .ok (.invokestatic idx, 3)) (kk : WG E ad nL σ (pc + 3) lv (.int (iI (min a b)) :: st)) : WG E ad nL σ pc lv (.int (iI b) :: .int (iI a) :: st) := by
  obtain ⟨p, l, e, R, s, m, args, below, meth, c, Q, D, cy, A, kc, ks⟩ := E
  obtain ⟨hx, hb, hml, hown, hts, hK, hAp, hAA, hkc, hks, hfr, hlo⟩ := X
  intro hRG H locs ls hP hS hl
  refine va_mmin hx hb (hml.trans hl.1.symm) hown (hts _ h1) (hts _ h2) (hts _ h3) (hts _ h4) (Nat.le_trans hR.1 hfr) (by omega) hkc hks hdg ?_
  rw [show (if iI b < iI a then iI b else iI a) = iI (min a b) from by
    by_cases h : b < a
    · rw [if_pos ((iI_lt hb0 ha).mpr h), Int.min_eq_right (by omega)]
    · rw [if_neg (fun q => h ((iI_lt hb0 ha).mp q)), Int.min_eq_left (by omega)]]
  exact kk hRG H locs ls hP hS hl
theorem g_max (X : Cx E ad cc nL own Ts fr lo) {idx : Nat} {a b : Int} (ha : InR a) (hb0 : InR b) (h1 : Cond.methodLink own idx Lib.Math.max.name ∈ Ts) (h2 : Cond.static Lib.Math.max.name ∈ Ts) (h3 : Cond.initialized "java/lang/Math" ∈ Ts) (h4 : Cond.code Lib.Math.max.name Lib.Math.max.code 2 (some .int) ∈ Ts) (hR : 1 ≤ fr ∧ 21 ≤ lo) (hcat : (st.map fun v => v.category).sum ≤ 8) (hdg : decode cc pc = .ok (.invokestatic idx, 3)) (kk : WG E ad nL σ (pc + 3) lv (.int (iI (max a b)) :: st)) : WG E ad nL σ pc lv (.int (iI b) :: .int (iI a) :: st) := by
  obtain ⟨p, l, e, R, s, m, args, below, meth, c, Q, D, cy, A, kc, ks⟩ := E
  obtain ⟨hx, hb, hml, hown, hts, hK, hAp, hAA, hkc, hks, hfr, hlo⟩ := X
  intro hRG H locs ls hP hS hl
  refine va_mmax hx hb (hml.trans hl.1.symm) hown (hts _ h1) (hts _ h2) (hts _ h3) (hts _ h4) (Nat.le_trans hR.1 hfr) (by omega) hkc hks hdg ?_
  rw [show (if iI a < iI b then iI b else iI a) = iI (max a b) from by
    by_cases h : a < b
    · rw [if_pos ((iI_lt ha hb0).mpr h), Int.max_eq_right (by omega)]
    · rw [if_neg (fun q => h ((iI_lt ha hb0).mp q)), Int.max_eq_left (by omega)]]
  exact kk hRG H locs ls hP hS hl
end CALLS
