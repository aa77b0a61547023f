/-! THE LAW: a method that makes an array of its own -/
def zrs (n : Nat) : vp_A := (n, .inl (fun _ => 0))
theorem ku {D : va_G} {T : List (ClassId × FieldType)} {s : State} (hK : va_K D vwCl T s) (i j : Nat) {c c' : ClassId} {t : FieldType} (hi : T[i]? = some (c, t)) (hj : T[j]? = some (c', t)) (ht : ∀ C, t ≠ .object C) : c = c' := by
  have h1 := (hK.2 i _ hi).2
  have h2 := (hK.2 j _ hj).2
  cases t with
  | object C => exact absurd rfl (ht C)
  | _ => exact Option.some.inj (h1.symm.trans h2)
theorem arrV_c {c : ClassId} {n : Nat} {f g : Nat → Value} (h : ∀ j, j < n → f j = g j) : arrV c n f = arrV c n g := by
  have e : (fun j : Fin n => f j.val) = (fun j : Fin n => g j.val) := funext fun j => h _ j.isLt
  unfold arrV
  rw [e]
theorem at_z {D : va_G} {H : Heap} {a n : Nat} {c : ClassId} {f : Nat → Int32} (h : va_at D vwCl (a, .inl (c, zrs n)) H) (hf : ∀ k, f k = 0) : va_at D vwCl (a, .inl (c, n, .inl f)) H := by
  rw [show f = fun _ => 0 from funext hf]
  exact h
theorem at_r {D : va_G} {H : Heap} {a n : Nat} {c : ClassId} {f g : Nat → Option Nat} (h : va_at D vwCl (a, .inl (c, n, .inr (.inr (.inr (.inr f))))) H) (hf : ∀ i, i < n → f i = g i) : va_at D vwCl (a, .inl (c, n, .inr (.inr (.inr (.inr g))))) H := by
  show H[a]? = some (vp_cell c (n, .inr (.inr (.inr (.inr g)))))
  have h : H[a]? = some (vp_cell c (n, .inr (.inr (.inr (.inr f))))) := h
  rw [h, vp_cell_q, vp_cell_q]
  exact congrArg some (arrV_c (fun j hj => by rw [hf j hj]))
def AN (ad : Int → Nat) (sz : Nat) : Nat → Prop := fun a => AA ad a ∨ sz ≤ a
def EA (E : EV) (k n : Nat) : EV := match E with
  | (p, l, e, R, s, m, args, below, meth, c, Q, D, cy, A, k0, n0) => (p, l, e, R, s, m, args, below, meth, c, Q, D, cy, A, k0 + k, n0 + n)
/-- a contract of a method that makes mc cells of ms slots -/
def MGN (E : EV) (y : MethodName) (ws : List Cond) (fr lo mc ms : Nat) (ad : Int → Nat) (σ : St) (avs : List Value) (post : Option Int → St → Prop) : Prop := match E with
  | (p, l, e, R, s, m, args, below, meth, c, Q, D, cy, A, k, n) => ∀ sz : Nat, Met l y ws { frames := fr, cells := mc, slots := ms, locals := lo } (va_Pc avs (fun U => U.heap.size = sz ∧ WS D ad cy σ U)) (GQ D ad cy post) mc ms (AN ad sz)
/-- the frame's end, with mc cells of ms slots still to come -/
def RtN (E : EV) (ad : Int → Nat) (ret : Option FieldType) (post : Option Int → St → Prop) (mc ms : Nat) : Prop := match E with
  | (p, l, e, R, s, m, args, below, meth, c, Q, D, cy, A, k, n) => meth.sig.returnType = ret ∧ meth.locks = false ∧ Q = MQ below (GQ D ad cy post) args s (k + mc) (n + ms) (AN ad s.heap.size) ∧ A = AN ad s.heap.size ∧ k + mc ≤ R.cells ∧ n + ms ≤ R.slots
def NW (E : EV) : Prop := match E with
  | (p, l, e, R, s, m, args, below, meth, c, Q, D, cy, A, k, n) => ∀ q : Nat, s.heap.size ≤ q → A q
def RM (E : EV) (mc ms : Nat) : Prop := match E with
  | (p, l, e, R, s, m, args, below, meth, c, Q, D, cy, A, k, n) => k + mc ≤ R.cells ∧ n + ms ≤ R.slots
theorem RtN.nw {E : EV} {ad : Int → Nat} {ret : Option FieldType} {post : Option Int → St → Prop} {mc ms : Nat} (h : RtN E ad ret post mc ms) : NW E := by
  obtain ⟨p, l, e, R, s, m, args, below, meth, c, Q, D, cy, A, k, n⟩ := E
  obtain ⟨-, -, -, h4, -, -⟩ := h
  intro q hq
  rw [h4]
  exact Or.inr hq
theorem RtN.rm {E : EV} {ad : Int → Nat} {ret : Option FieldType} {post : Option Int → St → Prop} {mc ms : Nat} (h : RtN E ad ret post mc ms) : RM E mc ms := by
  obtain ⟨p, l, e, R, s, m, args, below, meth, c, Q, D, cy, A, k, n⟩ := E
  exact ⟨h.2.2.2.2.1, h.2.2.2.2.2⟩
theorem RtN.add {E : EV} {ad : Int → Nat} {ret : Option FieldType} {post : Option Int → St → Prop} {k n mc ms : Nat} (h : RtN E ad ret post (k + mc) (n + ms)) : RtN (EA E k n) ad ret post mc ms := by
  obtain ⟨p, l, e, R, s, m, args, below, meth, c, Q, D, cy, A, k0, n0⟩ := E
  obtain ⟨h1, h2, h3, h4, h5, h6⟩ := h
  exact ⟨h1, h2, by rw [Nat.add_assoc, Nat.add_assoc]; exact h3, h4, by rw [Nat.add_assoc]; exact h5, by rw [Nat.add_assoc]; exact h6⟩
theorem Cx.add {E : EV} {ad : Int → Nat} {cc : ByteArray} {nL : Nat} {own : String} {Ts : List Cond} {fr lo mc ms : Nat} (X : Cx E ad cc nL own Ts fr lo) (h : RM E mc ms) : Cx (EA E mc ms) ad cc nL own Ts fr lo := by
  obtain ⟨p, l, e, R, s, m, args, below, meth, c, Q, D, cy, A, k0, n0⟩ := E
  obtain ⟨hx, hb, hml, hown, hts, hK, hAp, hAA, hkc, hks, hfr, hlo⟩ := X
  exact ⟨hx, hb, hml, hown, hts, hK, hAp, hAA, h.1, h.2, hfr, hlo⟩
theorem Cx.ap {E : EV} {ad : Int → Nat} {cc : ByteArray} {nL : Nat} {own : String} {Ts : List Cond} {fr lo : Nat} (X : Cx E ad cc nL own Ts fr lo) : Ap ad := by
  obtain ⟨p, l, e, R, s, m, args, below, meth, c, Q, D, cy, A, k0, n0⟩ := E
  exact X.2.2.2.2.2.2.1
theorem MGN.of {E0 : EV} {y : MethodName} {ws ws' : List Cond} {fr lo mc ms : Nat} {ad : Int → Nat} {σ : St} {avs : List Value} {post : Option Int → St → Prop} {cc : ByteArray} {maxL : Nat} {ret : Option FieldType} {own : String} (lv0 : List (Option Value)) (hy : plainName y.cls = true) (hw : ws = Cond.code y cc maxL ret :: ws') (hown : y.cls = own) (hlen : avs.length ≤ maxL) (hcat0 : avs.all (fun v => v.category == 1) = true) (hlv0 : avs.map some ++ List.replicate (maxL - avs.length) none = lv0) (body : ∀ E : EV, Cx E ad cc maxL own ws fr lo → RtN E ad ret post mc ms → WG E ad maxL σ 0 lv0 []) : MGN E0 y ws fr lo mc ms ad σ avs post := by
  obtain ⟨p0, l, e0, R0, s0, m0, args0, below0, meth0, c0, Q0, D, cy, A0, k0, n0⟩ := E0
  show ∀ sz : Nat, Met _ _ _ _ _ _ _ _ _
  intro sz
  have hcat : ∀ v ∈ avs, v.category = 1 := fun v hv => by
    have := List.all_eq_true.mp hcat0 v hv
    simpa using this
  have hlv : ∀ (i : Nat) (v : Value), lv0[i]? = some (some v) → avs[i]? = some v := by
    intro i v h
    rw [← hlv0] at h
    by_cases hi : i < avs.length
    · rw [List.getElem?_append_left (by simpa using hi), List.getElem?_map] at h
      cases h9 : avs[i]? with
      | none => rw [h9] at h; cases h
      | some x => rw [h9] at h; cases h; rfl
    · rw [List.getElem?_append_right (by simpa using hi), List.getElem?_replicate] at h
      split at h <;> cases h
  refine Met.ofW (cc := cc) (maxL := maxL) (ret := ret) hy hw ?_
  intro p e s m args below meth c s₁ B hml hv
  obtain ⟨rfl, hsz, hP, hK, hAp, hRG⟩ := hv
  subst hsz
  have hts := atoms_spec (ws := ws) B.pre
  have hown1 : s.vm.findClass own = some m.cls := by rw [← hown]; exact findClass_of_methodNamed B.named
  have hsl : ∀ vs : List Value, (∀ v ∈ vs, v.category = 1) → (lg_sl vs).length = vs.length := by
    intro vs
    induction vs with
    | nil => intro _; rfl
    | cons a t ih =>
      intro h
      have h1 := ih (fun v hv => h v (List.mem_cons_of_mem _ hv))
      have h2 := h a List.mem_cons_self
      cases a <;> simp_all [lg_sl, Value.category]
  have hargs : ∀ (vs : List Value) (j : Nat), (∀ v ∈ vs, v.category = 1) → ∀ (i : Nat) (v : Value), vs[i]? = some v → (j + i, v) ∈ lv_args j vs := by
    intro vs
    induction vs with
    | nil => intro j _ i v h; simp at h
    | cons a t ih =>
      intro j h i v hi
      have h2 := h a List.mem_cons_self
      cases i with
      | zero =>
        simp at hi
        subst hi
        simp [lv_args]
      | succ i =>
        have h3 := ih (j + 1) (fun v hv => h v (List.mem_cons_of_mem _ hv)) i v (by simpa using hi)
        have e9 : j + (i + 1) = j + 1 + i := by omega
        rw [e9]
        unfold lv_args
        rw [h2]
        exact List.mem_cons_of_mem _ h3
  have hl := lv_entry avs (n := maxL) (by rw [hsl avs hcat]; exact hlen)
  rw [lg_entry_eq]
  have hb := body (p, l, e, (headSpec ws { frames := fr, cells := mc, slots := ms, locals := lo }).room, s, m, avs.toArray, below, meth, c, MQ below (GQ D ad cy post) avs.toArray s mc ms (AN ad s.heap.size), D, cy, AN ad s.heap.size, 0, 0) ⟨B.exec, B.bytes, hml, hown1, hts, hK, hAp, fun q h1 h2 => Or.inl ⟨q, h1, h2, rfl⟩, Nat.zero_le _, Nat.zero_le _, Nat.le_refl _, Nat.le_refl _⟩ ⟨B.returns, B.notSynchronized, by rw [Nat.zero_add, Nat.zero_add], rfl, by rw [Nat.zero_add]; exact Nat.le_refl _, by rw [Nat.zero_add]; exact Nat.le_refl _⟩
  exact hb hRG s.heap [] _ hP va_S.rf ⟨hl.1, hl.2.1, fun i v hv => hl.2.2 (i, v) (by
    have := hargs avs 0 hcat i v (hlv i v hv)
    rwa [Nat.zero_add] at this)⟩
/-- a cell of the world, in other numbers -/
theorem at_ad {D : va_G} {H : Heap} {ad ad' : Int → Nat} {cy : CY} {σ σ' : St} {q : Int} (hq : 0 ≤ q ∧ q < 82) (ha : ∀ x, 0 ≤ x → x < 82 → ad' x = ad x) (hTB : ∀ x, ad' (TB x) = ad (TB x)) (hs : ∀ k, σ' q k = σ q k) (h : va_at D vwCl (ad q, cel ad cy σ q) H) : va_at D vwCl (ad' q, cel ad' cy σ' q) H := by
  rw [ha q hq.1 hq.2]
  by_cases h0 : 0 < alen q
  · rw [cel_I h0] at h ⊢
    rw [show (fun k : Nat => iI (σ' q k)) = (fun k : Nat => iI (σ q k)) from funext fun k => by rw [hs]]
    exact h
  · have hc : q = 0 ∨ q = 1 ∨ q = 2 ∨ q = 3 ∨ q = 5 ∨ q = 6 ∨ q = 8 ∨ q = 9 ∨ q = 10 ∨ (∃ t : Int, (0 ≤ t ∧ t < 6) ∧ q = TB t) ∨ ∃ t : Int, (0 ≤ t ∧ t < 6) ∧ q = TC t := by
      by_cases h1 : q < 11
      · unfold alen at h0
        by_cases h4 : q = 4 ∨ q = 7
        · rw [if_pos h4] at h0; omega
        · omega
      · by_cases h2 : q < 71
        · unfold alen at h0
          rw [if_neg (by omega), if_pos (by omega)] at h0
          by_cases h3 : (q - 11) % 10 = 0 ∨ (q - 11) % 10 = 2
          · rcases h3 with h3 | h3
            · exact Or.inr (Or.inr (Or.inr (Or.inr (Or.inr (Or.inr (Or.inr (Or.inr (Or.inr (Or.inl ⟨(q - 11) / 10, by omega, by unfold TB; omega⟩)))))))))
            · exact Or.inr (Or.inr (Or.inr (Or.inr (Or.inr (Or.inr (Or.inr (Or.inr (Or.inr (Or.inr ⟨(q - 11) / 10, by omega, by unfold TC; omega⟩)))))))))
          · rw [if_neg h3] at h0; omega
        · exfalso
          unfold alen at h0
          rw [if_neg (by omega), if_neg (by omega)] at h0
          by_cases h3 : 71 ≤ q ∧ q < 79
          · rw [if_pos h3] at h0; omega
          · rw [if_neg h3] at h0
            by_cases h4 : q = 79
            · rw [if_pos h4] at h0; omega
            · rw [if_neg h4] at h0
              by_cases h5 : q = 80
              · rw [if_pos h5] at h0; omega
              · rw [if_neg h5, if_pos (by omega)] at h0; omega
    rcases hc with rfl | rfl | rfl | rfl | rfl | rfl | rfl | rfl | rfl | ⟨t, ht, rfl⟩ | ⟨t, ht, rfl⟩
    · rw [cel_0] at h ⊢
      rw [hTB, ha 1 (by omega) (by omega), ha 3 (by omega) (by omega), ha 6 (by omega) (by omega), ha 8 (by omega) (by omega), ha 10 (by omega) (by omega)]
      exact h
    · rw [cel_1] at h ⊢
      rw [hs, ha 2 (by omega) (by omega)]
      exact h
    · rw [cel_2] at h ⊢
      exact at_r h (fun i hi => by rw [hTB, hs])
    · rw [cel_3] at h ⊢
      rw [hs, hTB, ha 4 (by omega) (by omega), ha 5 (by omega) (by omega)]
      exact h
    · rw [cel_5] at h ⊢
      exact at_r h (fun i hi => by rw [ha (LR i) (by unfold LR; omega) (by unfold LR; omega)])
    · rw [cel_6] at h ⊢
      rw [hTB, ha 7 (by omega) (by omega), ha 3 (by omega) (by omega)]
      exact h
    · rw [cel_8] at h ⊢
      rw [hs, ha 9 (by omega) (by omega)]
      exact h
    · rw [cel_9] at h ⊢
      rw [show (fun k : Nat => iI (σ' 9 k)) = (fun k : Nat => iI (σ 9 k)) from funext fun k => by rw [hs]]
      exact h
    · rw [cel_10] at h ⊢
      rw [hs, hs, hTB, ha 8 (by omega) (by omega)]
      exact h
    · rw [cel_TB ht] at h ⊢
      rw [hs, hs, ha (TI t) (by unfold TI; omega) (by unfold TI; omega), ha (TC t) (by unfold TC; omega) (by unfold TC; omega)]
      exact h
    · rw [cel_TC ht] at h ⊢
      exact at_r h (fun i hi => by rw [ha (TR t i) (by unfold TR; omega) (by unfold TR; omega)])
theorem gw_back {D : va_G} {H : Heap} {ad ad' : Int → Nat} {cy : CY} {σ : St} (ha : ∀ x, 0 ≤ x → x < 82 → ad' x = ad x) (hTB : ∀ x, ad' (TB x) = ad (TB x)) (had : ad (-1) = 0) (h : va_P D vwCl (gw ad' cy σ) H) : va_P D vwCl (gw ad cy σ) H := by
  intro k x hk
  have h82 : nC ad = 82 := by unfold nC; rw [if_pos had]
  have hk8 : k < 82 := by
    have := (List.getElem?_eq_some_iff.mp hk).1
    unfold gw at this
    simpa [h82] using this
  have h1 := gw_at (ad := ad) (cy := cy) (σ := σ) (q := (k : Int)) ⟨by omega, by omega⟩
  have h2 := gw_at (ad := ad') (cy := cy) (σ := σ) (q := (k : Int)) ⟨by omega, by omega⟩
  rw [Int.toNat_natCast] at h1 h2
  rw [hk] at h1
  rw [Option.some.inj h1]
  exact at_ad (ad := ad') ⟨by omega, by omega⟩ (fun y a b => (ha y a b).symm) (fun y => (hTB y).symm) (fun _ => rfl) (h k _ h2)
def z82 (σ : St) : St := fun q k => if q = 82 then 0 else σ q k
section LAWN
variable {E : EV} {ad : Int → Nat} {cc : ByteArray} {nL : Nat} {own : String} {Ts : List Cond} {fr lo : Nat} {σ : St} {pc : Nat} {lv : List (Option Value)} {st : List Value}
theorem g_zretN {ad' : Int → Nat} (X : Cx E ad' cc nL own Ts fr lo) {P : Int → St → Prop} {z : Int} {mc ms : Nat} (hr : RtN E ad (some .boolean) (PI P) mc ms) (ha : ∀ x, 0 ≤ x → x < 82 → ad' x = ad x) (hTB : ∀ x, ad' (TB x) = ad (TB x)) (hAp0 : Ap ad) (had : ad (-1) = 0) (hz : z = 0 ∨ z = 1) (hp : P z σ) (hdg : decode cc pc = .ok (.ireturn, 1)) : WG E ad' nL σ pc lv [.int (iI z)] := by
  obtain ⟨p, l, e, R, s, m, args, below, meth, c, Q, D, cy, A, kc, ks⟩ := E
  obtain ⟨hx, hb, hml, hown, hts, hK, hAp, hAA, hkc, hks, hfr, hlo⟩ := X
  obtain ⟨h1, h2, rfl, rfl, -, -⟩ := hr
  intro hRG H locs ls hP hS hl
  have hn : narrow .boolean (.int (iI z)) = .int (iI z) := by rcases hz with rfl | rfl <;> rfl
  refine W.widen (k := kc + mc) (n := ks + ms) (Nat.le_add_right _ _) (Nat.le_add_right _ _) ?_
  refine W.zret (v := iI z) hx hb h1 hn (fun t ht hW => ⟨⟨some z, σ, rfl, ⟨z, rfl, by rcases hz with rfl | rfl <;> exact ⟨by omega, by omega⟩, hp⟩, by rw [ht]; exact gw_back ha hTB had hP, va_K.moved hW.alike hK, hAp0, hRG⟩, ?_⟩) hS.2.2 hdg h2
  have hF := hS.F ht
  exact ⟨hF.1, fun q a b => hF.2 q a (fun g => g.elim b (fun g => absurd g (Nat.not_le.mpr a)))⟩
theorem g_newP (X : Cx E ad cc nL own Ts fr lo) {ret : Option FieldType} {post : Option Int → St → Prop} (hr : RtN E ad ret post 1 7) (had : ad (-1) = 0) (harr : Cond.arrayClass .int ∈ Ts) (hdg : decode cc pc = .ok (.newarray .int, 2)) (kk : ∀ (ad' : Int → Nat) (E' : EV), RtN E' ad ret post 0 0 → (∀ x, 0 ≤ x → x < 82 → ad' x = ad x) → (∀ x, ad' (TB x) = ad (TB x)) → Ap ad → ad' (-1) ≠ 0 → Cx E' ad' cc nL own Ts fr lo → WG E' ad' nL (z82 σ) (pc + 2) lv (.ref (ad' 82) :: st)) : WG E ad nL σ pc lv (.int (iI 7) :: st) := by
  have hrm := hr.rm
  have hrn : RtN (EA E 1 7) ad ret post 0 0 := RtN.add (k := 1) (n := 7) (mc := 0) (ms := 0) hr
  have X1 := X.add hrm
  obtain ⟨p, l, e, R, s, m, args, below, meth, c, Q, D, cy, A, kc, ks⟩ := E
  obtain ⟨hx, hb, hml, hown, hts, hK, hAp, hAA, hkc, hks, hfr, hlo⟩ := X
  have hA : A = AN ad s.heap.size := hr.2.2.2.1
  intro hR H locs ls hP hS hl
  refine va_newa hx hb (atype := .int) (ty := .int) (hts _ harr) rfl hK hP (gw_D hAp hAA) hS (fun q h => by rw [hA]; exact Or.inr h) (a0 := zrs 7) (N' := 7) (fun _ => rfl) (by decide) (by decide) (by decide) hrm.1 hrm.2 hdg (fun q cA H1 hK1 hP1 hD1 hS1 => ?_)
  have hcA : cA = cy.1 := ku hK1 4 0 (t := .int) rfl rfl (fun C g => by cases g)
  subst hcA
  have h82 : nC ad = 82 := by unfold nC; rw [if_pos had]
  have hlen : (gw ad cy σ).length = 82 := by unfold gw; simp [h82]
  have hlast : (gw ad cy σ ++ [((q, .inl (cy.1, zrs 7)) : Nat × va_E)])[82]? = some (q, .inl (cy.1, zrs 7)) := by
    rw [List.getElem?_append_right (by omega), hlen]
    rfl
  have hold : ∀ x : Int, 0 ≤ x → x < 82 → (gw ad cy σ ++ [((q, .inl (cy.1, zrs 7)) : Nat × va_E)])[x.toNat]? = some (ad x, cel ad cy σ x) := fun x a b => by
    rw [List.getElem?_append_left (by omega)]
    exact gw_at ⟨a, b⟩
  have hne : ∀ x : Int, 0 ≤ x → x < 82 → ad x ≠ q := fun x a b g => by
    have := hD1.1 _ _ _ _ (hold x a b) hlast g
    omega
  obtain ⟨ad', hd'⟩ : ∃ ad' : Int → Nat, ad' = fun x => if x = 82 then q else if x = -1 then 1 else ad x := ⟨_, rfl⟩
  have a82 : ad' 82 = q := by rw [hd']; exact if_pos rfl
  have an1 : ad' (-1) ≠ 0 := by
    have : ad' (-1) = 1 := by rw [hd']; rfl
    omega
  have ao : ∀ x, x ≠ 82 → x ≠ -1 → ad' x = ad x := fun x a b => by
    rw [hd']
    show (if x = 82 then q else if x = -1 then 1 else ad x) = ad x
    rw [if_neg a, if_neg b]
  clear hd'
  have hTB : ∀ x, ad' (TB x) = ad (TB x) := fun x => ao _ (by unfold TB; omega) (by unfold TB; omega)
  have h83 : nC ad' = 83 := by unfold nC; rw [if_neg an1]
  have hAp' : Ap ad' := fun x y a b c d g => by
    by_cases h1 : x = 82
    · by_cases h2 : y = 82
      · omega
      · rw [h1, a82, ao y h2 (by omega)] at g
        exact absurd g.symm (hne y c (by omega))
    · by_cases h2 : y = 82
      · rw [h2, a82, ao x h1 (by omega)] at g
        exact absurd g (hne x a (by omega))
      · rw [ao x h1 (by omega), ao y h2 (by omega)] at g
        exact hAp x y a b c d g
  have X2 : Cx (p, l, e, R, s, m, args, below, meth, c, Q, D, cy, A, kc + 1, ks + 7) ad' cc nL own Ts fr lo := ⟨hx, hb, hml, hown, hts, hK, hAp', fun x a b => by
    by_cases h1 : x = 82
    · rw [h1, a82]; exact hD1.2 _ _ hlast
    · rw [ao x h1 (by omega)]; exact hAA x a b, hrm.1, hrm.2, hfr, hlo⟩
  have hP2 : va_P D vwCl (gw ad' cy (z82 σ)) H1 := by
    intro k x hk
    have hk8 : k < 83 := by
      have := (List.getElem?_eq_some_iff.mp hk).1
      unfold gw at this
      simpa [h83] using this
    have h1 := gw_atN (ad := ad') (cy := cy) (σ := z82 σ) (q := (k : Int)) ⟨by omega, by omega⟩
    rw [Int.toNat_natCast, hk] at h1
    rw [Option.some.inj h1]
    by_cases h2 : k = 82
    · subst h2
      have h3 : va_at D vwCl (q, .inl (cy.1, zrs 7)) H1 := hP1 82 _ hlast
      show va_at D vwCl (ad' 82, cel ad' cy (z82 σ) 82) H1
      rw [a82, cel_I (q := 82) (by decide)]
      exact at_z (n := 7) h3 (fun k => by unfold z82; rw [if_pos rfl]; rfl)
    · have h3 := hold (k : Int) (by omega) (by omega)
      exact at_ad (ad := ad) ⟨by omega, by omega⟩ (fun y a b => ao y (by omega) (by omega)) hTB (fun j => by unfold z82; rw [if_neg (by omega)]) (hP1 _ _ h3)
  have hR2 : RG (z82 σ) := fun a b => by
    unfold z82
    by_cases g : a = 82
    · rw [if_pos g]; exact InR_0
    · rw [if_neg g]; exact hR a b
  have K := kk ad' _ hrn (fun x a b => ao x (by omega) (by omega)) hTB hAp an1 X2 hR2 H1 locs ls hP2 hS1 hl
  rw [a82] at K
  exact K
theorem g_afterN {p : Program} {l : Launch} {e : Env} {R : Room} {s : State} {m : MethodId} {args : Array Value} {below : List Frame} {meth : Method} {c : Code} {Q : State → Prop} {D : va_G} {cy : CY} {A : Nat → Prop} {kc ks mc ms : Nat} {H : Heap} {locs : List Loc} {ls : Array Slot} {st0 : List Value} {a : Array Value} {post : Option Int → St → Prop} (hA : ∀ q : Int, 0 ≤ q → q < 83 → A (ad q)) (hN : ∀ q : Nat, s.heap.size ≤ q → A q) (hr : va_Run p l e R s m args below meth c H locs kc ks mc ms (F0 m pc ls st0) st (GQ D ad cy post a) (AN ad H.size)) (hS : va_S A s.heap H locs) (hl : LV ls nL lv)
    (kk : ∀ (r : Option Int) (σ' : St), post r σ' → WG (p, l, e, R, s, m, args, below, meth, c, Q, D, cy, A, kc + mc, ks + ms) ad nL σ' (pc + 3) lv ((rO r).toList ++ st)) : W p l e R s m args below meth c H locs kc ks Q (F0 m pc ls st0) := by
  intro T hT X
  obtain ⟨v, st₀, t, T', L, h0, X', hL, e1, e2, ⟨⟨r, σ', hv, hp, hW⟩, hz, hk⟩, hst⟩ := hr T hT X
  cases hv
  rw [h0] at hz hk
  have hAA : ∀ q, AA ad q → A q := fun q h => by
    obtain ⟨x, h1, h2, h3⟩ := h
    rw [h3]
    exact hA x h1 h2
  have hAN : ∀ q, AN ad H.size q → A q := fun q h => h.elim (hAA q) (fun g => hN q (Nat.le_trans hS.1 g))
  obtain ⟨t2, a1, b1⟩ := kk r σ' hp hW.2.2.2 T'.heap (locs ++ L) ls (by rw [e1]; exact hW.1)
    ⟨Nat.le_trans hS.1 (by rw [e1]; exact hz), fun q h1 h2 => by rw [e1, hk q (Nat.lt_of_lt_of_le h1 hS.1) (fun z => h2 (hAA q z))]; exact hS.2.1 q h1 h2, fun q hq => by
      rcases List.mem_append.mp hq with h | h
      · exact hS.2.2 q h
      · exact hAN _ (hL q h)⟩ hl T' rfl X'
  exact ⟨t2, hst t2 a1, b1⟩
theorem g_NI4 (X : Cx E ad cc nL own Ts fr lo) (hN : NW E) {mc ms : Nat} (hRm : RM E mc ms) {y : MethodName} {ws ws' : List Cond} {fr' lo' maxL idx : Nat} {bytes : ByteArray} {ret : Option FieldType} {b1 b2 b3 b4 : Value} {P : Int → St → Prop} (hM : MGN E y ws fr' lo' mc ms ad σ [b1, b2, b3, b4] (PI P)) (hG : GoodIn Ts (va_wsS own idx y ws)) (hw : ws = Cond.code y bytes maxL ret :: ws') (hd : y.cls ≠ "java/lang/invoke/MethodHandle" ∧ y.cls ≠ "java/lang/invoke/VarHandle" ∧ (parseMethodDescriptor y.desc).map (fun d => d.parameters.length) = some 4) (hR : fr' + 1 ≤ fr ∧ 8 + (maxL + 11) + lo' ≤ lo) (hcat : (st.map fun v => v.category).sum ≤ 8) (hdg : decode cc pc = .ok (.invokestatic idx, 3)) (kk : ∀ (z : Int) (σ' : St), InR z → P z σ' → WG (EA E mc ms) ad nL σ' (pc + 3) lv (.int (iI z) :: st)) : WG E ad nL σ pc lv (b4 :: b3 :: b2 :: b1 :: st) := by
  obtain ⟨p, l, e, R, s, m, args, below, meth, c, Q, D, cy, A, kc, ks⟩ := E
  obtain ⟨hx, hb, hml, hown, hts, hK, hAp, hAA, hkc, hks, hfr, hlo⟩ := X
  intro hRG H locs ls hP hS hl
  have hrun := va_runS (p := p) (e := e) (R := R) (m := m) (below := below) (meth := meth) (locs := locs) (cells := kc) (slots := ks) (g := F0 m pc ls (b4 :: b3 :: b2 :: b1 :: st)) (As := [b1, b2, b3, b4]) (rest := st) ⟨hx, hb, hml, hown, hts⟩ (hM H.size) (va_cwS 4 hts hG hw rfl rfl hd ⟨Nat.le_trans hR.1 hfr, Nat.le_trans hR.2 hlo⟩) ⟨fun a U g mk q => ⟨q.1, q.2.1, q.2.2.calling⟩, fun U hU hW => ⟨rfl, by rw [hU], by rw [hU]; exact hP, va_K.moved hW.alike hK, hAp, hRG⟩⟩ rfl rfl hl.1 rfl (lv_room hcat) hdg hRm
  exact g_afterN hAA hN hrun hS hl (k_I (k := fun r σ' => WG _ ad nL σ' (pc + 3) lv ((rO r).toList ++ st)) kk)
end LAWN

