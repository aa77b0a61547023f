/-! THE LAW: its script, its calls, its loop -/
/-- the script at b, apart from the world -/
def Lx (E : EV) (b L : Nat) (xs : Nat → Int32) : Prop := match E with
  | (p, l, e, R, s, m, args, below, meth, c, Q, D, cy, A, k, n) => va_X b L xs s s.heap ∧ b < s.heap.size ∧ ¬ A b
theorem iI_nat {L : Nat} (h : L ≤ 2048) : Int32.ofNat L = iI (L : Int) := by
  rw [← Int32.toInt_inj, iI_toInt ⟨by omega, by omega⟩]
  first | exact Int32.toInt_ofNat_of_lt (by omega) | (rw [Int32.toInt_ofNat']; simp [Int.bmod]; omega)
theorem and31 (x : Int32) : ∃ z : Int, x &&& iI 31 = iI z ∧ 0 ≤ z ∧ z < 32 := by
  refine ⟨(x &&& iI 31).toInt, (iI_of _).symm, ?_⟩
  have e : (x &&& iI 31).toInt = ((x.toBitVec &&& 31#32).toNat : Int) := by
    show (x.toBitVec &&& 31#32).toInt = _
    have h : (x.toBitVec &&& 31#32).toNat ≤ 31 := by
      rw [BitVec.toNat_and]
      exact Nat.and_le_right
    rw [BitVec.toInt_eq_toNat_cond, if_pos (by omega)]
  have h : (x.toBitVec &&& 31#32).toNat ≤ 31 := by
    rw [BitVec.toNat_and]
    exact Nat.and_le_right
  rw [e]
  omega
section LAW
variable {E : EV} {ad : Int → Nat} {cc : ByteArray} {nL : Nat} {own : String} {Ts : List Cond} {fr lo : Nat} {σ : St} {pc : Nat} {lv : List (Option Value)} {st : List Value}
theorem g_sld (X : Cx E ad cc nL own Ts fr lo) {b L : Nat} {xs : Nat → Int32} (hX : Lx E b L xs) {z : Int} (h0 : 0 ≤ z) (h1 : z < L) (hr : InR z) (hdg : decode cc pc = .ok (.iaload, 1)) (kk : WG E ad nL σ (pc + 1) lv (.int (iI (xs z.toNat).toInt) :: st)) : WG E ad nL σ pc lv (.int (iI z) :: .ref b :: st) := by
  obtain ⟨p, l, e, R, s, m, args, below, meth, c, Q, D, cy, A, kc, ks⟩ := E
  obtain ⟨hx, hb, hml, hown, hts, hK, hAp, hAA, hkc, hks, hfr, hlo⟩ := X
  obtain ⟨x1, x2, x3⟩ := hX
  intro hR H locs ls hP hS hl
  refine va_sld hx hb x1 x2 x3 hS (iI_vp h0 h1 hr) hdg ?_
  rw [iI_clamp h0 hr, ← iI_of (xs z.toNat)]
  exact kk hR H locs ls hP hS hl
theorem g_slen (X : Cx E ad cc nL own Ts fr lo) {b L : Nat} {xs : Nat → Int32} (hX : Lx E b L xs) (hL : L ≤ 2048) (hdg : decode cc pc = .ok (.arraylength, 1)) (kk : WG E ad nL σ (pc + 1) lv (.int (iI (L : Int)) :: st)) : WG E ad nL σ pc lv (.ref b :: st) := by
  obtain ⟨p, l, e, R, s, m, args, below, meth, c, Q, D, cy, A, kc, ks⟩ := E
  obtain ⟨hx, hb, hml, hown, hts, hK, hAp, hAA, hkc, hks, hfr, hlo⟩ := X
  obtain ⟨x1, x2, x3⟩ := hX
  intro hR H locs ls hP hS hl
  refine va_slen hx hb x1 x2 x3 hS hdg ?_
  rw [iI_nat hL]
  exact kk hR H locs ls hP hS hl
/-- an argument: a number of the script behind the call's own -/
theorem g_arg (X : Cx E ad cc nL own Ts fr lo) {b L : Nat} {xs : Nat → Int32} (hX : Lx E b L xs) {i j : Int} {r1 r2 : Option Value} {r : List (Option Value)} (hi : 0 ≤ i + j ∧ i + j < L) (hL : L ≤ 2048) (d0 : decode cc pc = .ok (.aload_n 0, 1)) (d1 : decode cc (pc + 1) = .ok (.iload_n 3, 1)) (d2 : decode cc (pc + 1 + 1) = .ok (.iconst j, 1)) (d3 : decode cc (pc + 1 + 1 + 1) = .ok (.iadd, 1)) (d4 : decode cc (pc + 1 + 1 + 1 + 1) = .ok (.iaload, 1)) (kk : WG E ad nL σ (pc + 1 + 1 + 1 + 1 + 1) (some (.ref b) :: r1 :: r2 :: some (.int (iI i)) :: r) (.int (iI (xs (i + j).toNat).toInt) :: st)) : WG E ad nL σ pc (some (.ref b) :: r1 :: r2 :: some (.int (iI i)) :: r) st := by
  refine g_aload0 X d0 ?_
  refine g_iload3 X d1 ?_
  refine g_iconst X d2 ?_
  refine g_iadd X d3 ?_
  exact g_sld X hX hi.1 hi.2 ⟨by omega, by omega⟩ d4 kk
theorem g_X0 (X : Cx E ad cc nL own Ts fr lo) {y : MethodName} {ws ws' : List Cond} {fr' lo' maxL idx : Nat} {bytes : ByteArray} {ret : Option FieldType} {C : String} {q : Int} {f : Int} {g : St} (hM : MGE E y ws fr' lo' ad σ [.ref (ad q)] (PF f g)) (hG : GoodIn Ts (wsV own idx C y ws)) (hw : ws = Cond.code y bytes maxL ret :: ws') (hd : y.cls = C ∧ y.cls ≠ "java/lang/invoke/MethodHandle" ∧ y.cls ≠ "java/lang/invoke/VarHandle" ∧ (parseMethodDescriptor y.desc).map (fun d => d.parameters.length) = some 0) (hR : fr' + 1 ≤ fr ∧ 8 + (maxL + 11) + lo' ≤ lo) (hO : Ob q C) (hcat : (st.map fun v => v.category).sum ≤ 8) (hdg : decode cc pc = .ok (.invokevirtual idx, 3)) (kk : ∀ (z : Int) (σ' : St), InR z → (z = f ∧ σ' = g) → WG E ad nL σ' (pc + 3) lv (.int (iI z) :: st)) : WG E ad nL σ pc lv (.ref (ad q) :: st) :=
  g_F0 X hM hG hw hd hR hO hcat hdg (fun h => kk f g h ⟨rfl, rfl⟩)
theorem g_X1 (X : Cx E ad cc nL own Ts fr lo) {y : MethodName} {ws ws' : List Cond} {fr' lo' maxL idx : Nat} {bytes : ByteArray} {ret : Option FieldType} {C : String} {q : Int} {a1 : Value} {f : Int} {g : St} (hM : MGE E y ws fr' lo' ad σ [.ref (ad q), a1] (PF f g)) (hG : GoodIn Ts (wsV own idx C y ws)) (hw : ws = Cond.code y bytes maxL ret :: ws') (hd : y.cls = C ∧ y.cls ≠ "java/lang/invoke/MethodHandle" ∧ y.cls ≠ "java/lang/invoke/VarHandle" ∧ (parseMethodDescriptor y.desc).map (fun d => d.parameters.length) = some 1) (hR : fr' + 1 ≤ fr ∧ 8 + (maxL + 11) + lo' ≤ lo) (hO : Ob q C) (hcat : (st.map fun v => v.category).sum ≤ 8) (hdg : decode cc pc = .ok (.invokevirtual idx, 3)) (kk : ∀ (z : Int) (σ' : St), InR z → (z = f ∧ σ' = g) → WG E ad nL σ' (pc + 3) lv (.int (iI z) :: st)) : WG E ad nL σ pc lv (a1 :: .ref (ad q) :: st) :=
  g_F1 X hM hG hw hd hR hO hcat hdg (fun h => kk f g h ⟨rfl, rfl⟩)
theorem g_X2 (X : Cx E ad cc nL own Ts fr lo) {y : MethodName} {ws ws' : List Cond} {fr' lo' maxL idx : Nat} {bytes : ByteArray} {ret : Option FieldType} {C : String} {q : Int} {a1 a2 : Value} {f : Int} {g : St} (hM : MGE E y ws fr' lo' ad σ [.ref (ad q), a1, a2] (PF f g)) (hG : GoodIn Ts (wsV own idx C y ws)) (hw : ws = Cond.code y bytes maxL ret :: ws') (hd : y.cls = C ∧ y.cls ≠ "java/lang/invoke/MethodHandle" ∧ y.cls ≠ "java/lang/invoke/VarHandle" ∧ (parseMethodDescriptor y.desc).map (fun d => d.parameters.length) = some 2) (hR : fr' + 1 ≤ fr ∧ 8 + (maxL + 11) + lo' ≤ lo) (hO : Ob q C) (hcat : (st.map fun v => v.category).sum ≤ 8) (hdg : decode cc pc = .ok (.invokevirtual idx, 3)) (kk : ∀ (z : Int) (σ' : St), InR z → (z = f ∧ σ' = g) → WG E ad nL σ' (pc + 3) lv (.int (iI z) :: st)) : WG E ad nL σ pc lv (a2 :: a1 :: .ref (ad q) :: st) :=
  g_F2 X hM hG hw hd hR hO hcat hdg (fun h => kk f g h ⟨rfl, rfl⟩)
theorem g_X3 (X : Cx E ad cc nL own Ts fr lo) {y : MethodName} {ws ws' : List Cond} {fr' lo' maxL idx : Nat} {bytes : ByteArray} {ret : Option FieldType} {C : String} {q : Int} {a1 a2 a3 : Value} {f : Int} {g : St} (hM : MGE E y ws fr' lo' ad σ [.ref (ad q), a1, a2, a3] (PF f g)) (hG : GoodIn Ts (wsV own idx C y ws)) (hw : ws = Cond.code y bytes maxL ret :: ws') (hd : y.cls = C ∧ y.cls ≠ "java/lang/invoke/MethodHandle" ∧ y.cls ≠ "java/lang/invoke/VarHandle" ∧ (parseMethodDescriptor y.desc).map (fun d => d.parameters.length) = some 3) (hR : fr' + 1 ≤ fr ∧ 8 + (maxL + 11) + lo' ≤ lo) (hO : Ob q C) (hcat : (st.map fun v => v.category).sum ≤ 8) (hdg : decode cc pc = .ok (.invokevirtual idx, 3)) (kk : ∀ (z : Int) (σ' : St), InR z → (z = f ∧ σ' = g) → WG E ad nL σ' (pc + 3) lv (.int (iI z) :: st)) : WG E ad nL σ pc lv (a3 :: a2 :: a1 :: .ref (ad q) :: st) :=
  g_F3 X hM hG hw hd hR hO hcat hdg (fun h => kk f g h ⟨rfl, rfl⟩)
end LAW
theorem LI.mg {σ σ1 : St} (h : LI σ) (g : AG σ σ1) : MT (σ1 80) ∧ N4 σ1 ∧ (0 ≤ σ1 79 2 ∧ σ1 79 2 ≤ 4) ∧ TXM σ1 := by
  obtain ⟨-, ⟨m1, m2, m3, m4, m5⟩, -⟩ := h
  refine ⟨by rw [g.f (q := 80) (by omega)]; exact m1, ⟨(g _ _ (by omega)).trans m2.1, (g _ _ (by omega)).trans m2.2.1, (g _ _ (by omega)).trans m2.2.2⟩, by rw [g 79 2 (by omega)]; exact m3, m5.of (g _ _ (by omega)) (fun k => g _ _ (by omega))⟩
set_option maxHeartbeats 4000000 in
theorem lc_worker {E : EV} {ad : Int → Nat} {σ : St} {b L : Nat} {xs : Nat → Int32} {i : Int} (X : Cx E ad cL_law 4 RL wsL_law 10 362) (hX : Lx E b L xs) (h : LI σ) (hi : 0 ≤ i ∧ i + 4 ≤ L) (hL : L ≤ 2048) (kk : ∀ σ', LI σ' → WG E ad 4 σ' 763 [some (.ref b), some (.ref (ad 0)), some (.ref (ad 79)), some (.int (iI i))] []) : WG E ad 4 σ 148 [some (.ref b), some (.ref (ad 0)), some (.ref (ad 79)), some (.int (iI i))] [] := by
  refine g_aload1 X dL_law_148 ?_
  refine g_arg X hX (by omega) hL dL_law_149 dL_law_150 dL_law_151 dL_law_152 dL_law_153 ?_
  refine g_X1 X (k_X6_worker E h.1 (InR_of _)) gL_law_X6_worker rfl (by decide) ⟨(Nat.le_of_ble_eq_true rfl), (Nat.le_of_ble_eq_true rfl)⟩ ob_0 (Nat.le_of_ble_eq_true rfl) dL_law_154 (fun z1 σ1 hz1 h1 => ?_)
  obtain ⟨ag, S2⟩ := s_worker h h1
  obtain ⟨mM, mN, mP, mX⟩ := h.mg ag
  refine g_aload2 X dL_law_157 ?_
  refine g_arg X hX (by omega) hL dL_law_158 dL_law_159 dL_law_160 dL_law_161 dL_law_162 ?_
  refine g_X1 X (k_X7_worker E mM mP (InR_of _)) gL_law_X7_worker rfl (by decide) ⟨(Nat.le_of_ble_eq_true rfl), (Nat.le_of_ble_eq_true rfl)⟩ ob_79 (Nat.le_of_ble_eq_true rfl) dL_law_163 (fun z2 σ2 hz2 h2 => ?_)
  obtain ⟨e, l2⟩ := S2 z2 σ2 h2
  exact g_icmp_eq X (tgt := 763) hz1 hz2 dL_law_166 (by decide) (fun _ => kk σ2 l2) (fun q => absurd e q)
set_option maxHeartbeats 4000000 in
theorem lc_task {E : EV} {ad : Int → Nat} {σ : St} {b L : Nat} {xs : Nat → Int32} {i : Int} (X : Cx E ad cL_law 4 RL wsL_law 10 362) (hX : Lx E b L xs) (h : LI σ) (hi : 0 ≤ i ∧ i + 4 ≤ L) (hL : L ≤ 2048) (kk : ∀ σ', LI σ' → WG E ad 4 σ' 763 [some (.ref b), some (.ref (ad 0)), some (.ref (ad 79)), some (.int (iI i))] []) : WG E ad 4 σ 171 [some (.ref b), some (.ref (ad 0)), some (.ref (ad 79)), some (.int (iI i))] [] := by
  refine g_aload1 X dL_law_171 ?_
  refine g_X0 X (k_X6_task E h.1) gL_law_X6_task rfl (by decide) ⟨(Nat.le_of_ble_eq_true rfl), (Nat.le_of_ble_eq_true rfl)⟩ ob_0 (Nat.le_of_ble_eq_true rfl) dL_law_172 (fun z1 σ1 hz1 h1 => ?_)
  obtain ⟨ag, S2⟩ := s_task h h1
  obtain ⟨mM, mN, mP, mX⟩ := h.mg ag
  refine g_aload2 X dL_law_175 ?_
  refine g_X0 X (k_X7_task E mM mP) gL_law_X7_task rfl (by decide) ⟨(Nat.le_of_ble_eq_true rfl), (Nat.le_of_ble_eq_true rfl)⟩ ob_79 (Nat.le_of_ble_eq_true rfl) dL_law_176 (fun z2 σ2 hz2 h2 => ?_)
  obtain ⟨e, l2⟩ := S2 z2 σ2 h2
  exact g_icmp_eq X (tgt := 763) hz1 hz2 dL_law_179 (by decide) (fun _ => kk σ2 l2) (fun q => absurd e q)
set_option maxHeartbeats 4000000 in
theorem lc_dropWorker {E : EV} {ad : Int → Nat} {σ : St} {b L : Nat} {xs : Nat → Int32} {i : Int} (X : Cx E ad cL_law 4 RL wsL_law 10 362) (hX : Lx E b L xs) (h : LI σ) (hi : 0 ≤ i ∧ i + 4 ≤ L) (hL : L ≤ 2048) (kk : ∀ σ', LI σ' → WG E ad 4 σ' 763 [some (.ref b), some (.ref (ad 0)), some (.ref (ad 79)), some (.int (iI i))] []) : WG E ad 4 σ 184 [some (.ref b), some (.ref (ad 0)), some (.ref (ad 79)), some (.int (iI i))] [] := by
  refine g_aload1 X dL_law_184 ?_
  refine g_arg X hX (by omega) hL dL_law_185 dL_law_186 dL_law_187 dL_law_188 dL_law_189 ?_
  refine g_X1 X (k_X6_dropWorker E h.1 (InR_of _)) gL_law_X6_dropWorker rfl (by decide) ⟨(Nat.le_of_ble_eq_true rfl), (Nat.le_of_ble_eq_true rfl)⟩ ob_0 (Nat.le_of_ble_eq_true rfl) dL_law_190 (fun z1 σ1 hz1 h1 => ?_)
  obtain ⟨ag, S2⟩ := s_dropWorker h h1
  obtain ⟨mM, mN, mP, mX⟩ := h.mg ag
  refine g_aload2 X dL_law_193 ?_
  refine g_arg X hX (by omega) hL dL_law_194 dL_law_195 dL_law_196 dL_law_197 dL_law_198 ?_
  refine g_X1 X (k_X7_dropWorker E mM mP (InR_of _)) gL_law_X7_dropWorker rfl (by decide) ⟨(Nat.le_of_ble_eq_true rfl), (Nat.le_of_ble_eq_true rfl)⟩ ob_79 (Nat.le_of_ble_eq_true rfl) dL_law_199 (fun z2 σ2 hz2 h2 => ?_)
  obtain ⟨e, l2⟩ := S2 z2 σ2 h2
  exact g_icmp_eq X (tgt := 763) hz1 hz2 dL_law_202 (by decide) (fun _ => kk σ2 l2) (fun q => absurd e q)
set_option maxHeartbeats 4000000 in
theorem lc_dropTask {E : EV} {ad : Int → Nat} {σ : St} {b L : Nat} {xs : Nat → Int32} {i : Int} (X : Cx E ad cL_law 4 RL wsL_law 10 362) (hX : Lx E b L xs) (h : LI σ) (hi : 0 ≤ i ∧ i + 4 ≤ L) (hL : L ≤ 2048) (kk : ∀ σ', LI σ' → WG E ad 4 σ' 763 [some (.ref b), some (.ref (ad 0)), some (.ref (ad 79)), some (.int (iI i))] []) : WG E ad 4 σ 207 [some (.ref b), some (.ref (ad 0)), some (.ref (ad 79)), some (.int (iI i))] [] := by
  refine g_aload1 X dL_law_207 ?_
  refine g_arg X hX (by omega) hL dL_law_208 dL_law_209 dL_law_210 dL_law_211 dL_law_212 ?_
  refine g_X1 X (k_X6_dropTask E h.1 (InR_of _)) gL_law_X6_dropTask rfl (by decide) ⟨(Nat.le_of_ble_eq_true rfl), (Nat.le_of_ble_eq_true rfl)⟩ ob_0 (Nat.le_of_ble_eq_true rfl) dL_law_213 (fun z1 σ1 hz1 h1 => ?_)
  obtain ⟨ag, S2⟩ := s_dropTask h h1
  obtain ⟨mM, mN, mP, mX⟩ := h.mg ag
  refine g_aload2 X dL_law_216 ?_
  refine g_arg X hX (by omega) hL dL_law_217 dL_law_218 dL_law_219 dL_law_220 dL_law_221 ?_
  refine g_X1 X (k_X7_dropTask E mM mP (InR_of _)) gL_law_X7_dropTask rfl (by decide) ⟨(Nat.le_of_ble_eq_true rfl), (Nat.le_of_ble_eq_true rfl)⟩ ob_79 (Nat.le_of_ble_eq_true rfl) dL_law_222 (fun z2 σ2 hz2 h2 => ?_)
  obtain ⟨e, l2⟩ := S2 z2 σ2 h2
  exact g_icmp_eq X (tgt := 763) hz1 hz2 dL_law_225 (by decide) (fun _ => kk σ2 l2) (fun q => absurd e q)
set_option maxHeartbeats 4000000 in
theorem lc_cost {E : EV} {ad : Int → Nat} {σ : St} {b L : Nat} {xs : Nat → Int32} {i : Int} (X : Cx E ad cL_law 4 RL wsL_law 10 362) (hX : Lx E b L xs) (h : LI σ) (hi : 0 ≤ i ∧ i + 4 ≤ L) (hL : L ≤ 2048) (kk : ∀ σ', LI σ' → WG E ad 4 σ' 763 [some (.ref b), some (.ref (ad 0)), some (.ref (ad 79)), some (.int (iI i))] []) : WG E ad 4 σ 230 [some (.ref b), some (.ref (ad 0)), some (.ref (ad 79)), some (.int (iI i))] [] := by
  refine g_aload1 X dL_law_230 ?_
  refine g_arg X hX (by omega) hL dL_law_231 dL_law_232 dL_law_233 dL_law_234 dL_law_235 ?_
  refine g_arg X hX (by omega) hL dL_law_236 dL_law_237 dL_law_238 dL_law_239 dL_law_240 ?_
  refine g_arg X hX (by omega) hL dL_law_241 dL_law_242 dL_law_243 dL_law_244 dL_law_245 ?_
  refine g_I3 X (k_X6_cost E h.1 (InR_of _) (InR_of _) (InR_of _)) gL_law_X6_cost rfl (by decide) ⟨(Nat.le_of_ble_eq_true rfl), (Nat.le_of_ble_eq_true rfl)⟩ ob_0 (Nat.le_of_ble_eq_true rfl) dL_law_246 (fun z1 σ1 hz1 h1 => ?_)
  obtain ⟨ag, S2⟩ := s_cost h h1
  obtain ⟨mM, mN, mP, mX⟩ := h.mg ag
  refine g_aload2 X dL_law_249 ?_
  refine g_arg X hX (by omega) hL dL_law_250 dL_law_251 dL_law_252 dL_law_253 dL_law_254 ?_
  refine g_arg X hX (by omega) hL dL_law_255 dL_law_256 dL_law_257 dL_law_258 dL_law_259 ?_
  refine g_arg X hX (by omega) hL dL_law_260 dL_law_261 dL_law_262 dL_law_263 dL_law_264 ?_
  refine g_I3 X (k_X7_cost E mM mP (InR_of _) (InR_of _) (InR_of _)) gL_law_X7_cost rfl (by decide) ⟨(Nat.le_of_ble_eq_true rfl), (Nat.le_of_ble_eq_true rfl)⟩ ob_79 (Nat.le_of_ble_eq_true rfl) dL_law_265 (fun z2 σ2 hz2 h2 => ?_)
  obtain ⟨e, l2⟩ := S2 z2 σ2 h2
  exact g_icmp_eq X (tgt := 763) hz1 hz2 dL_law_268 (by decide) (fun _ => kk σ2 l2) (fun q => absurd e q)
set_option maxHeartbeats 4000000 in
theorem lc_bar {E : EV} {ad : Int → Nat} {σ : St} {b L : Nat} {xs : Nat → Int32} {i : Int} (X : Cx E ad cL_law 4 RL wsL_law 10 362) (hX : Lx E b L xs) (h : LI σ) (hi : 0 ≤ i ∧ i + 4 ≤ L) (hL : L ≤ 2048) (kk : ∀ σ', LI σ' → WG E ad 4 σ' 763 [some (.ref b), some (.ref (ad 0)), some (.ref (ad 79)), some (.int (iI i))] []) : WG E ad 4 σ 273 [some (.ref b), some (.ref (ad 0)), some (.ref (ad 79)), some (.int (iI i))] [] := by
  refine g_aload1 X dL_law_273 ?_
  refine g_arg X hX (by omega) hL dL_law_274 dL_law_275 dL_law_276 dL_law_277 dL_law_278 ?_
  refine g_arg X hX (by omega) hL dL_law_279 dL_law_280 dL_law_281 dL_law_282 dL_law_283 ?_
  refine g_I2 X (k_X6_bar E h.1 (InR_of _) (InR_of _)) gL_law_X6_bar rfl (by decide) ⟨(Nat.le_of_ble_eq_true rfl), (Nat.le_of_ble_eq_true rfl)⟩ ob_0 (Nat.le_of_ble_eq_true rfl) dL_law_284 (fun z1 σ1 hz1 h1 => ?_)
  obtain ⟨ag, S2⟩ := s_bar h h1
  obtain ⟨mM, mN, mP, mX⟩ := h.mg ag
  refine g_aload2 X dL_law_287 ?_
  refine g_arg X hX (by omega) hL dL_law_288 dL_law_289 dL_law_290 dL_law_291 dL_law_292 ?_
  refine g_arg X hX (by omega) hL dL_law_293 dL_law_294 dL_law_295 dL_law_296 dL_law_297 ?_
  refine g_I2 X (k_X7_bar E mM mP (InR_of _) (InR_of _)) gL_law_X7_bar rfl (by decide) ⟨(Nat.le_of_ble_eq_true rfl), (Nat.le_of_ble_eq_true rfl)⟩ ob_79 (Nat.le_of_ble_eq_true rfl) dL_law_298 (fun z2 σ2 hz2 h2 => ?_)
  obtain ⟨e, l2⟩ := S2 z2 σ2 h2
  exact g_icmp_eq X (tgt := 763) hz1 hz2 dL_law_301 (by decide) (fun _ => kk σ2 l2) (fun q => absurd e q)
set_option maxHeartbeats 4000000 in
theorem lc_idle {E : EV} {ad : Int → Nat} {σ : St} {b L : Nat} {xs : Nat → Int32} {i : Int} (X : Cx E ad cL_law 4 RL wsL_law 10 362) (hX : Lx E b L xs) (h : LI σ) (hi : 0 ≤ i ∧ i + 4 ≤ L) (hL : L ≤ 2048) (kk : ∀ σ', LI σ' → WG E ad 4 σ' 763 [some (.ref b), some (.ref (ad 0)), some (.ref (ad 79)), some (.int (iI i))] []) : WG E ad 4 σ 306 [some (.ref b), some (.ref (ad 0)), some (.ref (ad 79)), some (.int (iI i))] [] := by
  refine g_aload1 X dL_law_306 ?_
  refine g_arg X hX (by omega) hL dL_law_307 dL_law_308 dL_law_309 dL_law_310 dL_law_311 ?_
  refine g_arg X hX (by omega) hL dL_law_312 dL_law_313 dL_law_314 dL_law_315 dL_law_316 ?_
  refine g_X2 X (k_X6_idle E h.1 (InR_of _) (InR_of _)) gL_law_X6_idle rfl (by decide) ⟨(Nat.le_of_ble_eq_true rfl), (Nat.le_of_ble_eq_true rfl)⟩ ob_0 (Nat.le_of_ble_eq_true rfl) dL_law_317 (fun z1 σ1 hz1 h1 => ?_)
  obtain ⟨ag, S2⟩ := s_idle h h1
  obtain ⟨mM, mN, mP, mX⟩ := h.mg ag
  refine g_aload2 X dL_law_320 ?_
  refine g_arg X hX (by omega) hL dL_law_321 dL_law_322 dL_law_323 dL_law_324 dL_law_325 ?_
  refine g_arg X hX (by omega) hL dL_law_326 dL_law_327 dL_law_328 dL_law_329 dL_law_330 ?_
  refine g_X2 X (k_X7_idle E mM mP (InR_of _) (InR_of _)) gL_law_X7_idle rfl (by decide) ⟨(Nat.le_of_ble_eq_true rfl), (Nat.le_of_ble_eq_true rfl)⟩ ob_79 (Nat.le_of_ble_eq_true rfl) dL_law_331 (fun z2 σ2 hz2 h2 => ?_)
  obtain ⟨e, l2⟩ := S2 z2 σ2 h2
  exact g_icmp_eq X (tgt := 763) hz1 hz2 dL_law_334 (by decide) (fun _ => kk σ2 l2) (fun q => absurd e q)
set_option maxHeartbeats 4000000 in
theorem lc_times {E : EV} {ad : Int → Nat} {σ : St} {b L : Nat} {xs : Nat → Int32} {i : Int} (X : Cx E ad cL_law 4 RL wsL_law 10 362) (hX : Lx E b L xs) (h : LI σ) (hi : 0 ≤ i ∧ i + 4 ≤ L) (hL : L ≤ 2048) (kk : ∀ σ', LI σ' → WG E ad 4 σ' 763 [some (.ref b), some (.ref (ad 0)), some (.ref (ad 79)), some (.int (iI i))] []) : WG E ad 4 σ 339 [some (.ref b), some (.ref (ad 0)), some (.ref (ad 79)), some (.int (iI i))] [] := by
  refine g_aload1 X dL_law_339 ?_
  refine g_arg X hX (by omega) hL dL_law_340 dL_law_341 dL_law_342 dL_law_343 dL_law_344 ?_
  refine g_arg X hX (by omega) hL dL_law_345 dL_law_346 dL_law_347 dL_law_348 dL_law_349 ?_
  refine g_X2 X (k_X6_times E h.1 (InR_of _) (InR_of _)) gL_law_X6_times rfl (by decide) ⟨(Nat.le_of_ble_eq_true rfl), (Nat.le_of_ble_eq_true rfl)⟩ ob_0 (Nat.le_of_ble_eq_true rfl) dL_law_350 (fun z1 σ1 hz1 h1 => ?_)
  obtain ⟨ag, S2⟩ := s_times h h1
  obtain ⟨mM, mN, mP, mX⟩ := h.mg ag
  refine g_aload2 X dL_law_353 ?_
  refine g_arg X hX (by omega) hL dL_law_354 dL_law_355 dL_law_356 dL_law_357 dL_law_358 ?_
  refine g_arg X hX (by omega) hL dL_law_359 dL_law_360 dL_law_361 dL_law_362 dL_law_363 ?_
  refine g_X2 X (k_X7_times E mM mP (InR_of _) (InR_of _)) gL_law_X7_times rfl (by decide) ⟨(Nat.le_of_ble_eq_true rfl), (Nat.le_of_ble_eq_true rfl)⟩ ob_79 (Nat.le_of_ble_eq_true rfl) dL_law_364 (fun z2 σ2 hz2 h2 => ?_)
  obtain ⟨e, l2⟩ := S2 z2 σ2 h2
  exact g_icmp_eq X (tgt := 763) hz1 hz2 dL_law_367 (by decide) (fun _ => kk σ2 l2) (fun q => absurd e q)
set_option maxHeartbeats 4000000 in
theorem lc_costOf {E : EV} {ad : Int → Nat} {σ : St} {b L : Nat} {xs : Nat → Int32} {i : Int} (X : Cx E ad cL_law 4 RL wsL_law 10 362) (hX : Lx E b L xs) (h : LI σ) (hi : 0 ≤ i ∧ i + 4 ≤ L) (hL : L ≤ 2048) (kk : ∀ σ', LI σ' → WG E ad 4 σ' 763 [some (.ref b), some (.ref (ad 0)), some (.ref (ad 79)), some (.int (iI i))] []) : WG E ad 4 σ 372 [some (.ref b), some (.ref (ad 0)), some (.ref (ad 79)), some (.int (iI i))] [] := by
  refine g_aload1 X dL_law_372 ?_
  refine g_arg X hX (by omega) hL dL_law_373 dL_law_374 dL_law_375 dL_law_376 dL_law_377 ?_
  refine g_arg X hX (by omega) hL dL_law_378 dL_law_379 dL_law_380 dL_law_381 dL_law_382 ?_
  refine g_X2 X (k_X6_costOf E h.1 (InR_of _) (InR_of _)) gL_law_X6_costOf rfl (by decide) ⟨(Nat.le_of_ble_eq_true rfl), (Nat.le_of_ble_eq_true rfl)⟩ ob_0 (Nat.le_of_ble_eq_true rfl) dL_law_383 (fun z1 σ1 hz1 h1 => ?_)
  obtain ⟨hz, rfl⟩ := h1
  have ag : AG σ1 σ1 := AG.rf
  obtain ⟨mM, mN, mP, mX⟩ := h.mg ag
  refine g_aload2 X dL_law_386 ?_
  refine g_arg X hX (by omega) hL dL_law_387 dL_law_388 dL_law_389 dL_law_390 dL_law_391 ?_
  refine g_arg X hX (by omega) hL dL_law_392 dL_law_393 dL_law_394 dL_law_395 dL_law_396 ?_
  refine g_X2 X (k_X7_costOf E mM (InR_of _) (InR_of _)) gL_law_X7_costOf rfl (by decide) ⟨(Nat.le_of_ble_eq_true rfl), (Nat.le_of_ble_eq_true rfl)⟩ ob_79 (Nat.le_of_ble_eq_true rfl) dL_law_397 (fun z2 σ2 hz2 h2 => ?_)
  have e : z1 = z2 := (hz.trans (q_costOf h.e ag)).trans h2.1.symm
  have l2 : LI σ2 := by rw [h2.2]; exact h
  exact g_icmp_eq X (tgt := 763) hz1 hz2 dL_law_400 (by decide) (fun _ => kk σ2 l2) (fun q => absurd e q)
set_option maxHeartbeats 4000000 in
theorem lc_total {E : EV} {ad : Int → Nat} {σ : St} {b L : Nat} {xs : Nat → Int32} {i : Int} (X : Cx E ad cL_law 4 RL wsL_law 10 362) (hX : Lx E b L xs) (h : LI σ) (hi : 0 ≤ i ∧ i + 4 ≤ L) (hL : L ≤ 2048) (kk : ∀ σ', LI σ' → WG E ad 4 σ' 763 [some (.ref b), some (.ref (ad 0)), some (.ref (ad 79)), some (.int (iI i))] []) : WG E ad 4 σ 405 [some (.ref b), some (.ref (ad 0)), some (.ref (ad 79)), some (.int (iI i))] [] := by
  refine g_aload1 X dL_law_405 ?_
  refine g_I0 X (k_X6_total E h.1) gL_law_X6_total rfl (by decide) ⟨(Nat.le_of_ble_eq_true rfl), (Nat.le_of_ble_eq_true rfl)⟩ ob_0 (Nat.le_of_ble_eq_true rfl) dL_law_406 (fun z1 σ1 hz1 h1 => ?_)
  have ag : AG σ σ1 := h1.2.ag
  obtain ⟨mM, mN, mP, mX⟩ := h.mg ag
  refine g_aload2 X dL_law_409 ?_
  refine g_I0 X (k_X7_total E mM) gL_law_X7_total rfl (by decide) ⟨(Nat.le_of_ble_eq_true rfl), (Nat.le_of_ble_eq_true rfl)⟩ ob_79 (Nat.le_of_ble_eq_true rfl) dL_law_410 (fun z2 σ2 hz2 h2 => ?_)
  have e : z1 = z2 := (h1.1.trans (q_total h.e ag)).trans h2.1.symm
  have l2 : LI σ2 := (h.q h1.2).m h2.2.qm
  exact g_icmp_eq X (tgt := 763) hz1 hz2 dL_law_413 (by decide) (fun _ => kk σ2 l2) (fun q => absurd e q)
set_option maxHeartbeats 4000000 in
theorem lc_taskOf {E : EV} {ad : Int → Nat} {σ : St} {b L : Nat} {xs : Nat → Int32} {i : Int} (X : Cx E ad cL_law 4 RL wsL_law 10 362) (hX : Lx E b L xs) (h : LI σ) (hi : 0 ≤ i ∧ i + 4 ≤ L) (hL : L ≤ 2048) (kk : ∀ σ', LI σ' → WG E ad 4 σ' 763 [some (.ref b), some (.ref (ad 0)), some (.ref (ad 79)), some (.int (iI i))] []) : WG E ad 4 σ 418 [some (.ref b), some (.ref (ad 0)), some (.ref (ad 79)), some (.int (iI i))] [] := by
  refine g_aload1 X dL_law_418 ?_
  refine g_arg X hX (by omega) hL dL_law_419 dL_law_420 dL_law_421 dL_law_422 dL_law_423 ?_
  refine g_I1 X (k_X6_taskOf E h.1 (InR_of _)) gL_law_X6_taskOf rfl (by decide) ⟨(Nat.le_of_ble_eq_true rfl), (Nat.le_of_ble_eq_true rfl)⟩ ob_0 (Nat.le_of_ble_eq_true rfl) dL_law_424 (fun z1 σ1 hz1 h1 => ?_)
  have ag : AG σ σ1 := h1.2.ag
  obtain ⟨mM, mN, mP, mX⟩ := h.mg ag
  refine g_aload2 X dL_law_427 ?_
  refine g_arg X hX (by omega) hL dL_law_428 dL_law_429 dL_law_430 dL_law_431 dL_law_432 ?_
  refine g_I1 X (k_X7_taskOf E mM mN (InR_of _)) gL_law_X7_taskOf rfl (by decide) ⟨(Nat.le_of_ble_eq_true rfl), (Nat.le_of_ble_eq_true rfl)⟩ ob_79 (Nat.le_of_ble_eq_true rfl) dL_law_433 (fun z2 σ2 hz2 h2 => ?_)
  have e : z1 = z2 := (h1.1.trans (q_taskOf h.e ag)).trans h2.1.symm
  have l2 : LI σ2 := (h.q h1.2).m h2.2
  exact g_icmp_eq X (tgt := 763) hz1 hz2 dL_law_436 (by decide) (fun _ => kk σ2 l2) (fun q => absurd e q)
set_option maxHeartbeats 4000000 in
theorem lc_workerOf {E : EV} {ad : Int → Nat} {σ : St} {b L : Nat} {xs : Nat → Int32} {i : Int} (X : Cx E ad cL_law 4 RL wsL_law 10 362) (hX : Lx E b L xs) (h : LI σ) (hi : 0 ≤ i ∧ i + 4 ≤ L) (hL : L ≤ 2048) (kk : ∀ σ', LI σ' → WG E ad 4 σ' 763 [some (.ref b), some (.ref (ad 0)), some (.ref (ad 79)), some (.int (iI i))] []) : WG E ad 4 σ 441 [some (.ref b), some (.ref (ad 0)), some (.ref (ad 79)), some (.int (iI i))] [] := by
  refine g_aload1 X dL_law_441 ?_
  refine g_arg X hX (by omega) hL dL_law_442 dL_law_443 dL_law_444 dL_law_445 dL_law_446 ?_
  refine g_I1 X (k_X6_workerOf E h.1 (InR_of _)) gL_law_X6_workerOf rfl (by decide) ⟨(Nat.le_of_ble_eq_true rfl), (Nat.le_of_ble_eq_true rfl)⟩ ob_0 (Nat.le_of_ble_eq_true rfl) dL_law_447 (fun z1 σ1 hz1 h1 => ?_)
  have ag : AG σ σ1 := h1.2.ag
  obtain ⟨mM, mN, mP, mX⟩ := h.mg ag
  refine g_aload2 X dL_law_450 ?_
  refine g_arg X hX (by omega) hL dL_law_451 dL_law_452 dL_law_453 dL_law_454 dL_law_455 ?_
  refine g_I1 X (k_X7_workerOf E mM mN (InR_of _)) gL_law_X7_workerOf rfl (by decide) ⟨(Nat.le_of_ble_eq_true rfl), (Nat.le_of_ble_eq_true rfl)⟩ ob_79 (Nat.le_of_ble_eq_true rfl) dL_law_456 (fun z2 σ2 hz2 h2 => ?_)
  have e : z1 = z2 := (h1.1.trans (q_workerOf h.e ag)).trans h2.1.symm
  have l2 : LI σ2 := (h.q h1.2).m h2.2
  exact g_icmp_eq X (tgt := 763) hz1 hz2 dL_law_459 (by decide) (fun _ => kk σ2 l2) (fun q => absurd e q)
set_option maxHeartbeats 4000000 in
theorem lc_totalFor {E : EV} {ad : Int → Nat} {σ : St} {b L : Nat} {xs : Nat → Int32} {i : Int} (X : Cx E ad cL_law 4 RL wsL_law 10 362) (hX : Lx E b L xs) (h : LI σ) (hi : 0 ≤ i ∧ i + 4 ≤ L) (hL : L ≤ 2048) (kk : ∀ σ', LI σ' → WG E ad 4 σ' 763 [some (.ref b), some (.ref (ad 0)), some (.ref (ad 79)), some (.int (iI i))] []) : WG E ad 4 σ 464 [some (.ref b), some (.ref (ad 0)), some (.ref (ad 79)), some (.int (iI i))] [] := by
  refine g_aload1 X dL_law_464 ?_
  refine g_arg X hX (by omega) hL dL_law_465 dL_law_466 dL_law_467 dL_law_468 dL_law_469 ?_
  refine g_I1 X (k_X6_totalFor E h.1 (InR_of _)) gL_law_X6_totalFor rfl (by decide) ⟨(Nat.le_of_ble_eq_true rfl), (Nat.le_of_ble_eq_true rfl)⟩ ob_0 (Nat.le_of_ble_eq_true rfl) dL_law_470 (fun z1 σ1 hz1 h1 => ?_)
  have ag : AG σ σ1 := h1.2.ag
  obtain ⟨mM, mN, mP, mX⟩ := h.mg ag
  refine g_aload2 X dL_law_473 ?_
  refine g_arg X hX (by omega) hL dL_law_474 dL_law_475 dL_law_476 dL_law_477 dL_law_478 ?_
  refine g_I1 X (k_X7_totalFor E mM (InR_of _)) gL_law_X7_totalFor rfl (by decide) ⟨(Nat.le_of_ble_eq_true rfl), (Nat.le_of_ble_eq_true rfl)⟩ ob_79 (Nat.le_of_ble_eq_true rfl) dL_law_479 (fun z2 σ2 hz2 h2 => ?_)
  have e : z1 = z2 := (h1.1.trans (q_totalFor h.e ag)).trans h2.1.symm
  have l2 : LI σ2 := (h.q h1.2).m h2.2
  exact g_icmp_eq X (tgt := 763) hz1 hz2 dL_law_482 (by decide) (fun _ => kk σ2 l2) (fun q => absurd e q)
set_option maxHeartbeats 4000000 in
theorem lc_price {E : EV} {ad : Int → Nat} {σ : St} {b L : Nat} {xs : Nat → Int32} {i : Int} (X : Cx E ad cL_law 4 RL wsL_law 10 362) (hX : Lx E b L xs) (h : LI σ) (hi : 0 ≤ i ∧ i + 4 ≤ L) (hL : L ≤ 2048) (kk : ∀ σ', LI σ' → WG E ad 4 σ' 763 [some (.ref b), some (.ref (ad 0)), some (.ref (ad 79)), some (.int (iI i))] []) : WG E ad 4 σ 487 [some (.ref b), some (.ref (ad 0)), some (.ref (ad 79)), some (.int (iI i))] [] := by
  refine g_aload1 X dL_law_487 ?_
  refine g_arg X hX (by omega) hL dL_law_488 dL_law_489 dL_law_490 dL_law_491 dL_law_492 ?_
  refine g_arg X hX (by omega) hL dL_law_493 dL_law_494 dL_law_495 dL_law_496 dL_law_497 ?_
  refine g_I2 X (k_X6_price E h.1 (InR_of _) (InR_of _)) gL_law_X6_price rfl (by decide) ⟨(Nat.le_of_ble_eq_true rfl), (Nat.le_of_ble_eq_true rfl)⟩ ob_0 (Nat.le_of_ble_eq_true rfl) dL_law_498 (fun z1 σ1 hz1 h1 => ?_)
  have ag : AG σ σ1 := h1.2.ag
  obtain ⟨mM, mN, mP, mX⟩ := h.mg ag
  refine g_aload2 X dL_law_501 ?_
  refine g_arg X hX (by omega) hL dL_law_502 dL_law_503 dL_law_504 dL_law_505 dL_law_506 ?_
  refine g_arg X hX (by omega) hL dL_law_507 dL_law_508 dL_law_509 dL_law_510 dL_law_511 ?_
  refine g_I2 X (k_X7_price E mM mN (InR_of _) (InR_of _)) gL_law_X7_price rfl (by decide) ⟨(Nat.le_of_ble_eq_true rfl), (Nat.le_of_ble_eq_true rfl)⟩ ob_79 (Nat.le_of_ble_eq_true rfl) dL_law_512 (fun z2 σ2 hz2 h2 => ?_)
  have e : z1 = z2 := (h1.1.trans (q_price h.e ag)).trans h2.1.symm
  have l2 : LI σ2 := (h.q h1.2).m h2.2
  exact g_icmp_eq X (tgt := 763) hz1 hz2 dL_law_515 (by decide) (fun _ => kk σ2 l2) (fun q => absurd e q)
set_option maxHeartbeats 4000000 in
theorem lc_workerIs {E : EV} {ad : Int → Nat} {σ : St} {b L : Nat} {xs : Nat → Int32} {i : Int} (X : Cx E ad cL_law 4 RL wsL_law 10 362) (hX : Lx E b L xs) (h : LI σ) (hi : 0 ≤ i ∧ i + 4 ≤ L) (hL : L ≤ 2048) (kk : ∀ σ', LI σ' → WG E ad 4 σ' 763 [some (.ref b), some (.ref (ad 0)), some (.ref (ad 79)), some (.int (iI i))] []) : WG E ad 4 σ 520 [some (.ref b), some (.ref (ad 0)), some (.ref (ad 79)), some (.int (iI i))] [] := by
  refine g_aload1 X dL_law_520 ?_
  refine g_arg X hX (by omega) hL dL_law_521 dL_law_522 dL_law_523 dL_law_524 dL_law_525 ?_
  refine g_arg X hX (by omega) hL dL_law_526 dL_law_527 dL_law_528 dL_law_529 dL_law_530 ?_
  refine g_I2 X (k_X6_workerIs E h.1 (InR_of _) (InR_of _)) gL_law_X6_workerIs rfl (by decide) ⟨(Nat.le_of_ble_eq_true rfl), (Nat.le_of_ble_eq_true rfl)⟩ ob_0 (Nat.le_of_ble_eq_true rfl) dL_law_531 (fun z1 σ1 hz1 h1 => ?_)
  have ag : AG σ σ1 := h1.2.ag
  obtain ⟨mM, mN, mP, mX⟩ := h.mg ag
  refine g_aload2 X dL_law_534 ?_
  refine g_arg X hX (by omega) hL dL_law_535 dL_law_536 dL_law_537 dL_law_538 dL_law_539 ?_
  refine g_arg X hX (by omega) hL dL_law_540 dL_law_541 dL_law_542 dL_law_543 dL_law_544 ?_
  refine g_I2 X (k_X7_workerIs E mM mN (InR_of _) (InR_of _)) gL_law_X7_workerIs rfl (by decide) ⟨(Nat.le_of_ble_eq_true rfl), (Nat.le_of_ble_eq_true rfl)⟩ ob_79 (Nat.le_of_ble_eq_true rfl) dL_law_545 (fun z2 σ2 hz2 h2 => ?_)
  have e : z1 = z2 := (h1.1.trans (q_workerIs h.e ag)).trans h2.1.symm
  have l2 : LI σ2 := (h.q h1.2).m h2.2
  exact g_icmp_eq X (tgt := 763) hz1 hz2 dL_law_548 (by decide) (fun _ => kk σ2 l2) (fun q => absurd e q)
set_option maxHeartbeats 4000000 in
theorem lc_proof {E : EV} {ad : Int → Nat} {σ : St} {b L : Nat} {xs : Nat → Int32} {i : Int} (X : Cx E ad cL_law 4 RL wsL_law 10 362) (hX : Lx E b L xs) (h : LI σ) (hi : 0 ≤ i ∧ i + 4 ≤ L) (hL : L ≤ 2048) (kk : ∀ σ', LI σ' → WG E ad 4 σ' 763 [some (.ref b), some (.ref (ad 0)), some (.ref (ad 79)), some (.int (iI i))] []) : WG E ad 4 σ 553 [some (.ref b), some (.ref (ad 0)), some (.ref (ad 79)), some (.int (iI i))] [] := by
  refine g_aload1 X dL_law_553 ?_
  refine g_I0 X (k_X6_proof E h.1) gL_law_X6_proof rfl (by decide) ⟨(Nat.le_of_ble_eq_true rfl), (Nat.le_of_ble_eq_true rfl)⟩ ob_0 (Nat.le_of_ble_eq_true rfl) dL_law_554 (fun z1 σ1 hz1 h1 => ?_)
  have ag : AG σ σ1 := h1.2.ag
  obtain ⟨mM, mN, mP, mX⟩ := h.mg ag
  refine g_aload2 X dL_law_557 ?_
  refine g_I0 X (k_X7_proof E mM mN) gL_law_X7_proof rfl (by decide) ⟨(Nat.le_of_ble_eq_true rfl), (Nat.le_of_ble_eq_true rfl)⟩ ob_79 (Nat.le_of_ble_eq_true rfl) dL_law_558 (fun z2 σ2 hz2 h2 => ?_)
  have e : z1 = z2 := (h1.1.trans (q_proof h.e ag)).trans h2.1.symm
  have l2 : LI σ2 := (h.q h1.2).m h2.2
  exact g_icmp_eq X (tgt := 763) hz1 hz2 dL_law_561 (by decide) (fun _ => kk σ2 l2) (fun q => absurd e q)
set_option maxHeartbeats 4000000 in
theorem lc_pairOf {E : EV} {ad : Int → Nat} {σ : St} {b L : Nat} {xs : Nat → Int32} {i : Int} (X : Cx E ad cL_law 4 RL wsL_law 10 362) (hX : Lx E b L xs) (h : LI σ) (hi : 0 ≤ i ∧ i + 4 ≤ L) (hL : L ≤ 2048) (kk : ∀ σ', LI σ' → WG E ad 4 σ' 763 [some (.ref b), some (.ref (ad 0)), some (.ref (ad 79)), some (.int (iI i))] []) : WG E ad 4 σ 566 [some (.ref b), some (.ref (ad 0)), some (.ref (ad 79)), some (.int (iI i))] [] := by
  refine g_aload1 X dL_law_566 ?_
  refine g_arg X hX (by omega) hL dL_law_567 dL_law_568 dL_law_569 dL_law_570 dL_law_571 ?_
  refine g_arg X hX (by omega) hL dL_law_572 dL_law_573 dL_law_574 dL_law_575 dL_law_576 ?_
  refine g_arg X hX (by omega) hL dL_law_577 dL_law_578 dL_law_579 dL_law_580 dL_law_581 ?_
  refine g_I3 X (k_X6_pairOf E h.1 (InR_of _) (InR_of _) (InR_of _)) gL_law_X6_pairOf rfl (by decide) ⟨(Nat.le_of_ble_eq_true rfl), (Nat.le_of_ble_eq_true rfl)⟩ ob_0 (Nat.le_of_ble_eq_true rfl) dL_law_582 (fun z1 σ1 hz1 h1 => ?_)
  have ag : AG σ σ1 := h1.2.ag
  obtain ⟨mM, mN, mP, mX⟩ := h.mg ag
  refine g_aload2 X dL_law_585 ?_
  refine g_arg X hX (by omega) hL dL_law_586 dL_law_587 dL_law_588 dL_law_589 dL_law_590 ?_
  refine g_arg X hX (by omega) hL dL_law_591 dL_law_592 dL_law_593 dL_law_594 dL_law_595 ?_
  refine g_arg X hX (by omega) hL dL_law_596 dL_law_597 dL_law_598 dL_law_599 dL_law_600 ?_
  refine g_I3 X (k_X7_pairOf E mM mN (InR_of _) (InR_of _) (InR_of _)) gL_law_X7_pairOf rfl (by decide) ⟨(Nat.le_of_ble_eq_true rfl), (Nat.le_of_ble_eq_true rfl)⟩ ob_79 (Nat.le_of_ble_eq_true rfl) dL_law_601 (fun z2 σ2 hz2 h2 => ?_)
  have e : z1 = z2 := (h1.1.trans (q_pairOf h.e ag)).trans h2.1.symm
  have l2 : LI σ2 := (h.q h1.2).m h2.2
  exact g_icmp_eq X (tgt := 763) hz1 hz2 dL_law_604 (by decide) (fun _ => kk σ2 l2) (fun q => absurd e q)
set_option maxHeartbeats 4000000 in
theorem lc_room {E : EV} {ad : Int → Nat} {σ : St} {b L : Nat} {xs : Nat → Int32} {i : Int} (X : Cx E ad cL_law 4 RL wsL_law 10 362) (hX : Lx E b L xs) (h : LI σ) (hi : 0 ≤ i ∧ i + 4 ≤ L) (hL : L ≤ 2048) (kk : ∀ σ', LI σ' → WG E ad 4 σ' 763 [some (.ref b), some (.ref (ad 0)), some (.ref (ad 79)), some (.int (iI i))] []) : WG E ad 4 σ 609 [some (.ref b), some (.ref (ad 0)), some (.ref (ad 79)), some (.int (iI i))] [] := by
  refine g_aload1 X dL_law_609 ?_
  refine g_arg X hX (by omega) hL dL_law_610 dL_law_611 dL_law_612 dL_law_613 dL_law_614 ?_
  refine g_I1 X (k_X6_room E h.1 (InR_of _)) gL_law_X6_room rfl (by decide) ⟨(Nat.le_of_ble_eq_true rfl), (Nat.le_of_ble_eq_true rfl)⟩ ob_0 (Nat.le_of_ble_eq_true rfl) dL_law_615 (fun z1 σ1 hz1 h1 => ?_)
  have ag : AG σ σ1 := h1.2.ag
  obtain ⟨mM, mN, mP, mX⟩ := h.mg ag
  refine g_aload2 X dL_law_618 ?_
  refine g_arg X hX (by omega) hL dL_law_619 dL_law_620 dL_law_621 dL_law_622 dL_law_623 ?_
  refine g_I1 X (k_X7_room E mM mN (InR_of _)) gL_law_X7_room rfl (by decide) ⟨(Nat.le_of_ble_eq_true rfl), (Nat.le_of_ble_eq_true rfl)⟩ ob_79 (Nat.le_of_ble_eq_true rfl) dL_law_624 (fun z2 σ2 hz2 h2 => ?_)
  have e : z1 = z2 := (h1.1.trans (q_room h.e ag)).trans h2.1.symm
  have l2 : LI σ2 := (h.q h1.2).m h2.2
  exact g_icmp_eq X (tgt := 763) hz1 hz2 dL_law_627 (by decide) (fun _ => kk σ2 l2) (fun q => absurd e q)
set_option maxHeartbeats 4000000 in
theorem lc_dearest {E : EV} {ad : Int → Nat} {σ : St} {b L : Nat} {xs : Nat → Int32} {i : Int} (X : Cx E ad cL_law 4 RL wsL_law 10 362) (hX : Lx E b L xs) (h : LI σ) (hi : 0 ≤ i ∧ i + 4 ≤ L) (hL : L ≤ 2048) (kk : ∀ σ', LI σ' → WG E ad 4 σ' 763 [some (.ref b), some (.ref (ad 0)), some (.ref (ad 79)), some (.int (iI i))] []) : WG E ad 4 σ 632 [some (.ref b), some (.ref (ad 0)), some (.ref (ad 79)), some (.int (iI i))] [] := by
  refine g_aload1 X dL_law_632 ?_
  refine g_arg X hX (by omega) hL dL_law_633 dL_law_634 dL_law_635 dL_law_636 dL_law_637 ?_
  refine g_I1 X (k_X6_dearest E h.1 (InR_of _)) gL_law_X6_dearest rfl (by decide) ⟨(Nat.le_of_ble_eq_true rfl), (Nat.le_of_ble_eq_true rfl)⟩ ob_0 (Nat.le_of_ble_eq_true rfl) dL_law_638 (fun z1 σ1 hz1 h1 => ?_)
  have ag : AG σ σ1 := h1.2.ag
  obtain ⟨mM, mN, mP, mX⟩ := h.mg ag
  refine g_aload2 X dL_law_641 ?_
  refine g_arg X hX (by omega) hL dL_law_642 dL_law_643 dL_law_644 dL_law_645 dL_law_646 ?_
  refine g_I1 X (k_X7_dearest E mM mN (InR_of _)) gL_law_X7_dearest rfl (by decide) ⟨(Nat.le_of_ble_eq_true rfl), (Nat.le_of_ble_eq_true rfl)⟩ ob_79 (Nat.le_of_ble_eq_true rfl) dL_law_647 (fun z2 σ2 hz2 h2 => ?_)
  have e : z1 = z2 := (h1.1.trans (q_dearest h.e ag)).trans h2.1.symm
  have l2 : LI σ2 := (h.q h1.2).m h2.2
  exact g_icmp_eq X (tgt := 763) hz1 hz2 dL_law_650 (by decide) (fun _ => kk σ2 l2) (fun q => absurd e q)
set_option maxHeartbeats 4000000 in
theorem lc_count {E : EV} {ad : Int → Nat} {σ : St} {b L : Nat} {xs : Nat → Int32} {i : Int} (X : Cx E ad cL_law 4 RL wsL_law 10 362) (hX : Lx E b L xs) (h : LI σ) (hi : 0 ≤ i ∧ i + 4 ≤ L) (hL : L ≤ 2048) (kk : ∀ σ', LI σ' → WG E ad 4 σ' 763 [some (.ref b), some (.ref (ad 0)), some (.ref (ad 79)), some (.int (iI i))] []) : WG E ad 4 σ 655 [some (.ref b), some (.ref (ad 0)), some (.ref (ad 79)), some (.int (iI i))] [] := by
  refine g_aload1 X dL_law_655 ?_
  refine g_arg X hX (by omega) hL dL_law_656 dL_law_657 dL_law_658 dL_law_659 dL_law_660 ?_
  refine g_I1 X (k_X6_count E h.1 (InR_of _)) gL_law_X6_count rfl (by decide) ⟨(Nat.le_of_ble_eq_true rfl), (Nat.le_of_ble_eq_true rfl)⟩ ob_0 (Nat.le_of_ble_eq_true rfl) dL_law_661 (fun z1 σ1 hz1 h1 => ?_)
  have ag : AG σ σ1 := h1.2.ag
  obtain ⟨mM, mN, mP, mX⟩ := h.mg ag
  refine g_aload2 X dL_law_664 ?_
  refine g_arg X hX (by omega) hL dL_law_665 dL_law_666 dL_law_667 dL_law_668 dL_law_669 ?_
  refine g_I1 X (k_X7_count E mM mN (InR_of _)) gL_law_X7_count rfl (by decide) ⟨(Nat.le_of_ble_eq_true rfl), (Nat.le_of_ble_eq_true rfl)⟩ ob_79 (Nat.le_of_ble_eq_true rfl) dL_law_670 (fun z2 σ2 hz2 h2 => ?_)
  have e : z1 = z2 := (h1.1.trans (q_count h.e ag h.2.2.2.1 h.2.2.2.2.2.1)).trans h2.1.symm
  have l2 : LI σ2 := (h.q h1.2).m h2.2
  exact g_icmp_eq X (tgt := 763) hz1 hz2 dL_law_673 (by decide) (fun _ => kk σ2 l2) (fun q => absurd e q)
set_option maxHeartbeats 4000000 in
theorem lc_undo {E : EV} {ad : Int → Nat} {σ : St} {b L : Nat} {xs : Nat → Int32} {i : Int} (X : Cx E ad cL_law 4 RL wsL_law 10 362) (hX : Lx E b L xs) (h : LI σ) (hi : 0 ≤ i ∧ i + 4 ≤ L) (hL : L ≤ 2048) (kk : ∀ σ', LI σ' → WG E ad 4 σ' 763 [some (.ref b), some (.ref (ad 0)), some (.ref (ad 79)), some (.int (iI i))] []) : WG E ad 4 σ 678 [some (.ref b), some (.ref (ad 0)), some (.ref (ad 79)), some (.int (iI i))] [] := by
  refine g_aload1 X dL_law_678 ?_
  refine g_X0 X (k_X6_undo E h.1) gL_law_X6_undo rfl (by decide) ⟨(Nat.le_of_ble_eq_true rfl), (Nat.le_of_ble_eq_true rfl)⟩ ob_0 (Nat.le_of_ble_eq_true rfl) dL_law_679 (fun z1 σ1 hz1 h1 => ?_)
  obtain ⟨ag, S2⟩ := s_undo h h1
  obtain ⟨mM, mN, mP, mX⟩ := h.mg ag
  refine g_aload2 X dL_law_682 ?_
  refine g_X0 X (k_X7_undo E mP) gL_law_X7_undo rfl (by decide) ⟨(Nat.le_of_ble_eq_true rfl), (Nat.le_of_ble_eq_true rfl)⟩ ob_79 (Nat.le_of_ble_eq_true rfl) dL_law_683 (fun z2 σ2 hz2 h2 => ?_)
  obtain ⟨e, l2⟩ := S2 z2 σ2 h2
  exact g_icmp_eq X (tgt := 763) hz1 hz2 dL_law_686 (by decide) (fun _ => kk σ2 l2) (fun q => absurd e q)
set_option maxHeartbeats 4000000 in
theorem lc_type {E : EV} {ad : Int → Nat} {σ : St} {b L : Nat} {xs : Nat → Int32} {i : Int} (X : Cx E ad cL_law 4 RL wsL_law 10 362) (hX : Lx E b L xs) (h : LI σ) (hi : 0 ≤ i ∧ i + 4 ≤ L) (hL : L ≤ 2048) (kk : ∀ σ', LI σ' → WG E ad 4 σ' 763 [some (.ref b), some (.ref (ad 0)), some (.ref (ad 79)), some (.int (iI i))] []) : WG E ad 4 σ 691 [some (.ref b), some (.ref (ad 0)), some (.ref (ad 79)), some (.int (iI i))] [] := by
  refine g_aload1 X dL_law_691 ?_
  refine g_arg X hX (by omega) hL dL_law_692 dL_law_693 dL_law_694 dL_law_695 dL_law_696 ?_
  refine g_X1 X (k_X6_type E h.1 (InR_of _)) gL_law_X6_type rfl (by decide) ⟨(Nat.le_of_ble_eq_true rfl), (Nat.le_of_ble_eq_true rfl)⟩ ob_0 (Nat.le_of_ble_eq_true rfl) dL_law_697 (fun z1 σ1 hz1 h1 => ?_)
  obtain ⟨ag, S2⟩ := s_type h h1
  obtain ⟨mM, mN, mP, mX⟩ := h.mg ag
  refine g_aload2 X dL_law_700 ?_
  refine g_arg X hX (by omega) hL dL_law_701 dL_law_702 dL_law_703 dL_law_704 dL_law_705 ?_
  refine g_X1 X (k_X7_type E mX.1 (InR_of _)) gL_law_X7_type rfl (by decide) ⟨(Nat.le_of_ble_eq_true rfl), (Nat.le_of_ble_eq_true rfl)⟩ ob_79 (Nat.le_of_ble_eq_true rfl) dL_law_706 (fun z2 σ2 hz2 h2 => ?_)
  obtain ⟨e, l2⟩ := S2 z2 σ2 h2
  exact g_icmp_eq X (tgt := 763) hz1 hz2 dL_law_709 (by decide) (fun _ => kk σ2 l2) (fun q => absurd e q)
set_option maxHeartbeats 4000000 in
theorem lc_clearText {E : EV} {ad : Int → Nat} {σ : St} {b L : Nat} {xs : Nat → Int32} {i : Int} (X : Cx E ad cL_law 4 RL wsL_law 10 362) (hX : Lx E b L xs) (h : LI σ) (hi : 0 ≤ i ∧ i + 4 ≤ L) (hL : L ≤ 2048) (kk : ∀ σ', LI σ' → WG E ad 4 σ' 763 [some (.ref b), some (.ref (ad 0)), some (.ref (ad 79)), some (.int (iI i))] []) : WG E ad 4 σ 714 [some (.ref b), some (.ref (ad 0)), some (.ref (ad 79)), some (.int (iI i))] [] := by
  refine g_aload1 X dL_law_714 ?_
  refine g_X0 X (k_X6_clearText E h.1) gL_law_X6_clearText rfl (by decide) ⟨(Nat.le_of_ble_eq_true rfl), (Nat.le_of_ble_eq_true rfl)⟩ ob_0 (Nat.le_of_ble_eq_true rfl) dL_law_715 (fun z1 σ1 hz1 h1 => ?_)
  obtain ⟨ag, S2⟩ := s_clearText h h1
  obtain ⟨mM, mN, mP, mX⟩ := h.mg ag
  refine g_aload2 X dL_law_718 ?_
  refine g_X0 X (k_X7_clearText E ) gL_law_X7_clearText rfl (by decide) ⟨(Nat.le_of_ble_eq_true rfl), (Nat.le_of_ble_eq_true rfl)⟩ ob_79 (Nat.le_of_ble_eq_true rfl) dL_law_719 (fun z2 σ2 hz2 h2 => ?_)
  obtain ⟨e, l2⟩ := S2 z2 σ2 h2
  exact g_icmp_eq X (tgt := 763) hz1 hz2 dL_law_722 (by decide) (fun _ => kk σ2 l2) (fun q => absurd e q)
set_option maxHeartbeats 4000000 in
theorem lc_fault {E : EV} {ad : Int → Nat} {σ : St} {b L : Nat} {xs : Nat → Int32} {i : Int} (X : Cx E ad cL_law 4 RL wsL_law 10 362) (hX : Lx E b L xs) (h : LI σ) (hi : 0 ≤ i ∧ i + 4 ≤ L) (hL : L ≤ 2048) (kk : ∀ σ', LI σ' → WG E ad 4 σ' 763 [some (.ref b), some (.ref (ad 0)), some (.ref (ad 79)), some (.int (iI i))] []) : WG E ad 4 σ 727 [some (.ref b), some (.ref (ad 0)), some (.ref (ad 79)), some (.int (iI i))] [] := by
  refine g_aload1 X dL_law_727 ?_
  refine g_arg X hX (by omega) hL dL_law_728 dL_law_729 dL_law_730 dL_law_731 dL_law_732 ?_
  refine g_I1 X (k_X6_fault E h.1 (InR_of _)) gL_law_X6_fault rfl (by decide) ⟨(Nat.le_of_ble_eq_true rfl), (Nat.le_of_ble_eq_true rfl)⟩ ob_0 (Nat.le_of_ble_eq_true rfl) dL_law_733 (fun z1 σ1 hz1 h1 => ?_)
  have ag : AG σ σ1 := h1.2.ag
  obtain ⟨mM, mN, mP, mX⟩ := h.mg ag
  refine g_aload2 X dL_law_736 ?_
  refine g_arg X hX (by omega) hL dL_law_737 dL_law_738 dL_law_739 dL_law_740 dL_law_741 ?_
  refine g_I1 X (k_X7_fault E mX (InR_of _)) gL_law_X7_fault rfl (by decide) ⟨(Nat.le_of_ble_eq_true rfl), (Nat.le_of_ble_eq_true rfl)⟩ ob_79 (Nat.le_of_ble_eq_true rfl) dL_law_742 (fun z2 σ2 hz2 h2 => ?_)
  have e : z1 = z2 := (h1.1.trans (q_fault h.e ag h.2.2.2.2.2.2 h.2.2.2.2.2.1)).trans h2.1.symm
  have l2 : LI σ2 := (h.q h1.2).m h2.2
  exact g_icmp_eq X (tgt := 763) hz1 hz2 dL_law_745 (by decide) (fun _ => kk σ2 l2) (fun q => absurd e q)
set_option maxHeartbeats 4000000 in
theorem lc_read {E : EV} {ad : Int → Nat} {σ : St} {b L : Nat} {xs : Nat → Int32} {i : Int} (X : Cx E ad cL_law 4 RL wsL_law 10 362) (hX : Lx E b L xs) (h : LI σ) (hi : 0 ≤ i ∧ i + 4 ≤ L) (hL : L ≤ 2048) (kk : ∀ σ', LI σ' → WG E ad 4 σ' 763 [some (.ref b), some (.ref (ad 0)), some (.ref (ad 79)), some (.int (iI i))] []) : WG E ad 4 σ 750 [some (.ref b), some (.ref (ad 0)), some (.ref (ad 79)), some (.int (iI i))] [] := by
  refine g_aload1 X dL_law_750 ?_
  refine g_I0 X (k_X6_read E h.1) gL_law_X6_read rfl (by decide) ⟨(Nat.le_of_ble_eq_true rfl), (Nat.le_of_ble_eq_true rfl)⟩ ob_0 (Nat.le_of_ble_eq_true rfl) dL_law_751 (fun z1 σ1 hz1 h1 => ?_)
  obtain ⟨ag, S2⟩ := s_read h h1
  obtain ⟨mM, mN, mP, mX⟩ := h.mg ag
  refine g_aload2 X dL_law_754 ?_
  refine g_I0 X (k_X7_read E mM mP mX) gL_law_X7_read rfl (by decide) ⟨(Nat.le_of_ble_eq_true rfl), (Nat.le_of_ble_eq_true rfl)⟩ ob_79 (Nat.le_of_ble_eq_true rfl) dL_law_755 (fun z2 σ2 hz2 h2 => ?_)
  obtain ⟨e, l2⟩ := S2 z2 σ2 h2
  exact g_icmp_eq X (tgt := 763) hz1 hz2 dL_law_758 (by decide) (fun _ => kk σ2 l2) (fun q => absurd e q)
set_option maxHeartbeats 4000000 in
/-- one call of the script, from the switch -/
theorem law_step {E : EV} {ad : Int → Nat} {σ : St} {b L : Nat} {xs : Nat → Int32} {i z : Int} (X : Cx E ad cL_law 4 RL wsL_law 10 362) (hX : Lx E b L xs) (h : LI σ) (hi : 0 ≤ i ∧ i + 4 ≤ L) (hL : L ≤ 2048) (hz : 0 ≤ z ∧ z < 32) (kk : ∀ σ', LI σ' → WG E ad 4 σ' 763 [some (.ref b), some (.ref (ad 0)), some (.ref (ad 79)), some (.int (iI i))] []) : WG E ad 4 σ 32 [some (.ref b), some (.ref (ad 0)), some (.ref (ad 79)), some (.int (iI i))] [.int (iI z)] := by
  have hzr : InR z := ⟨by omega, by omega⟩
  rcases (show z = 0 ∨ z = 1 ∨ z = 2 ∨ z = 3 ∨ z = 4 ∨ z = 5 ∨ z = 6 ∨ z = 7 ∨ z = 8 ∨ z = 9 ∨ z = 10 ∨ z = 11 ∨ z = 12 ∨ z = 13 ∨ z = 14 ∨ z = 15 ∨ z = 16 ∨ z = 17 ∨ z = 18 ∨ z = 19 ∨ z = 20 ∨ z = 21 ∨ z = 22 ∨ z = 23 ∨ z = 24 ∨ 25 ≤ z by omega) with rfl | rfl | rfl | rfl | rfl | rfl | rfl | rfl | rfl | rfl | rfl | rfl | rfl | rfl | rfl | rfl | rfl | rfl | rfl | rfl | rfl | rfl | rfl | rfl | rfl | hz9
  · exact g_tin X (tgt := 148) hzr dL_law_32 (by decide) (by decide) rfl (by decide) (lc_worker X hX h hi hL kk)
  · exact g_tin X (tgt := 171) hzr dL_law_32 (by decide) (by decide) rfl (by decide) (lc_task X hX h hi hL kk)
  · exact g_tin X (tgt := 184) hzr dL_law_32 (by decide) (by decide) rfl (by decide) (lc_dropWorker X hX h hi hL kk)
  · exact g_tin X (tgt := 207) hzr dL_law_32 (by decide) (by decide) rfl (by decide) (lc_dropTask X hX h hi hL kk)
  · exact g_tin X (tgt := 230) hzr dL_law_32 (by decide) (by decide) rfl (by decide) (lc_cost X hX h hi hL kk)
  · exact g_tin X (tgt := 273) hzr dL_law_32 (by decide) (by decide) rfl (by decide) (lc_bar X hX h hi hL kk)
  · exact g_tin X (tgt := 306) hzr dL_law_32 (by decide) (by decide) rfl (by decide) (lc_idle X hX h hi hL kk)
  · exact g_tin X (tgt := 339) hzr dL_law_32 (by decide) (by decide) rfl (by decide) (lc_times X hX h hi hL kk)
  · exact g_tin X (tgt := 372) hzr dL_law_32 (by decide) (by decide) rfl (by decide) (lc_costOf X hX h hi hL kk)
  · exact g_tin X (tgt := 405) hzr dL_law_32 (by decide) (by decide) rfl (by decide) (lc_total X hX h hi hL kk)
  · exact g_tin X (tgt := 418) hzr dL_law_32 (by decide) (by decide) rfl (by decide) (lc_taskOf X hX h hi hL kk)
  · exact g_tin X (tgt := 441) hzr dL_law_32 (by decide) (by decide) rfl (by decide) (lc_workerOf X hX h hi hL kk)
  · exact g_tin X (tgt := 464) hzr dL_law_32 (by decide) (by decide) rfl (by decide) (lc_totalFor X hX h hi hL kk)
  · exact g_tin X (tgt := 487) hzr dL_law_32 (by decide) (by decide) rfl (by decide) (lc_price X hX h hi hL kk)
  · exact g_tin X (tgt := 520) hzr dL_law_32 (by decide) (by decide) rfl (by decide) (lc_workerIs X hX h hi hL kk)
  · exact g_tin X (tgt := 553) hzr dL_law_32 (by decide) (by decide) rfl (by decide) (lc_proof X hX h hi hL kk)
  · exact g_tin X (tgt := 566) hzr dL_law_32 (by decide) (by decide) rfl (by decide) (lc_pairOf X hX h hi hL kk)
  · exact g_tin X (tgt := 609) hzr dL_law_32 (by decide) (by decide) rfl (by decide) (lc_room X hX h hi hL kk)
  · exact g_tin X (tgt := 632) hzr dL_law_32 (by decide) (by decide) rfl (by decide) (lc_dearest X hX h hi hL kk)
  · exact g_tin X (tgt := 655) hzr dL_law_32 (by decide) (by decide) rfl (by decide) (lc_count X hX h hi hL kk)
  · exact g_tin X (tgt := 678) hzr dL_law_32 (by decide) (by decide) rfl (by decide) (lc_undo X hX h hi hL kk)
  · exact g_tin X (tgt := 691) hzr dL_law_32 (by decide) (by decide) rfl (by decide) (lc_type X hX h hi hL kk)
  · exact g_tin X (tgt := 714) hzr dL_law_32 (by decide) (by decide) rfl (by decide) (lc_clearText X hX h hi hL kk)
  · exact g_tin X (tgt := 727) hzr dL_law_32 (by decide) (by decide) rfl (by decide) (lc_fault X hX h hi hL kk)
  · exact g_tin X (tgt := 750) hzr dL_law_32 (by decide) (by decide) rfl (by decide) (lc_read X hX h hi hL kk)
  · exact g_tout X (tgt := 763) hzr dL_law_32 (Or.inr (by omega)) (by decide) (kk σ h)
set_option maxHeartbeats 4000000 in
theorem law_loop {E : EV} {ad : Int → Nat} {b L : Nat} {xs : Nat → Int32} (X : Cx E ad cL_law 4 RL wsL_law 10 362) (hX : Lx E b L xs) (hL : L ≤ 2048) (kk : ∀ (σ' : St) (j : Int), WG E ad 4 σ' 769 [some (.ref b), some (.ref (ad 0)), some (.ref (ad 79)), some (.int (iI j))] []) : ∀ (n : Nat) (σ : St) (i : Int), LI σ → 0 ≤ i → i ≤ L → (L : Int) - i < n → WG E ad 4 σ 18 [some (.ref b), some (.ref (ad 0)), some (.ref (ad 79)), some (.int (iI i))] [] := by
  intro n
  induction n with
  | zero => intro σ i _ _ _ hn; omega
  | succ n ih =>
    intro σ i h h0 h1 hn
    refine g_iload3 X dL_law_18 ?_
    refine g_aload0 X dL_law_19 ?_
    refine g_slen X hX hL dL_law_20 ?_
    refine g_iconst X dL_law_21 ?_
    refine g_isub X dL_law_22 ?_
    refine g_icmp_gt X (tgt := 769) ⟨by omega, by omega⟩ ⟨by omega, by omega⟩ dL_law_23 (by decide) (fun _ => kk σ i) (fun hc => ?_)
    refine g_aload0 X dL_law_26 ?_
    refine g_iload3 X dL_law_27 ?_
    refine g_sld X hX h0 (by omega) ⟨by omega, by omega⟩ dL_law_28 ?_
    refine g_bipush X dL_law_29 rfl ?_
    obtain ⟨z, hz, hz1, hz2⟩ := and31 (iI (xs i.toNat).toInt)
    refine g_iand X hz dL_law_31 ?_
    refine law_step X hX h ⟨h0, by omega⟩ hL ⟨hz1, hz2⟩ (fun σ' h' => ?_)
    refine g_iinc3 X dL_law_763 (by decide) (Or.inr ⟨_, rfl, rfl⟩) ?_
    refine g_goto X (tgt := 18) dL_law_766 (by decide) ?_
    exact ih σ' (i + 4) h' (by omega) (by omega) (by omega)
