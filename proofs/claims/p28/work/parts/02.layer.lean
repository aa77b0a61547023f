/-! MY LAYER: one world of 82 cells, and of 83 where the law has prices of its own; its state is a function of a cell's number and a place, in whole numbers -/
abbrev St : Type := Int → Int → Int
abbrev CY : Type := ClassId × ClassId × ClassId × ClassId
def iI (z : Int) : Int32 := Int32.ofInt z
def InR (z : Int) : Prop := -2147483648 ≤ z ∧ z < 2147483648
def RG (σ : St) : Prop := ∀ q k, InR (σ q k)
def up (σ : St) (q k v : Int) : St := fun q' k' => if q' = q ∧ k' = k then v else σ q' k'
def TB (t : Int) : Int := 11 + 10 * t
def TI (t : Int) : Int := 12 + 10 * t
def TC (t : Int) : Int := 13 + 10 * t
def TR (t r : Int) : Int := 14 + 10 * t + r
def LR (w : Int) : Int := 71 + w
theorem iI_toInt {z : Int} (h : InR z) : (iI z).toInt = z := by
  unfold iI
  obtain ⟨h1, h2⟩ := h
  exact Int32.toInt_ofInt_of_le (by omega) (by omega)
theorem iI_of (x : Int32) : iI x.toInt = x := Int32.ofInt_toInt x
theorem InR_of (x : Int32) : InR x.toInt := by
  have h1 := Int32.le_toInt x
  have h2 := Int32.toInt_lt x
  unfold InR
  omega
theorem iI_add (a b : Int) : iI a + iI b = iI (a + b) := (Int32.ofInt_add a b).symm
theorem iI_sub (a b : Int) : iI a - iI b = iI (a - b) := (Int32.ofInt_sub a b).symm
theorem iI_mul (a b : Int) : iI a * iI b = iI (a * b) := (Int32.ofInt_mul a b).symm
theorem iI_neg (a : Int) : - iI a = iI (-a) := (Int32.ofInt_neg a).symm
theorem iI_lt {a b : Int} (ha : InR a) (hb : InR b) : iI a < iI b ↔ a < b := by
  rw [Int32.lt_iff_toInt_lt, iI_toInt ha, iI_toInt hb]
theorem iI_le {a b : Int} (ha : InR a) (hb : InR b) : iI a ≤ iI b ↔ a ≤ b := by
  rw [Int32.le_iff_toInt_le, iI_toInt ha, iI_toInt hb]
theorem iI_eq {a b : Int} (ha : InR a) (hb : InR b) : iI a = iI b ↔ a = b := by
  rw [← Int32.toInt_inj, iI_toInt ha, iI_toInt hb]
theorem InR_0 : InR 0 := ⟨by decide, by decide⟩
theorem iI_clamp {z : Int} (h0 : 0 ≤ z) (h : InR z) : (iI z).toNatClampNeg = z.toNat := by
  show (iI z).toInt.toNat = z.toNat
  rw [iI_toInt h]
theorem iI_vp {z : Int} {n : Nat} (h0 : 0 ≤ z) (h1 : z < n) (h : InR z) : vp_in (iI z) n := by
  rw [vp_in_iff, iI_toInt h]
  exact ⟨h0, h1⟩
/-- how many numbers an array of numbers holds; 0: the cell is another thing -/
def alen (q : Int) : Int :=
  if q = 4 ∨ q = 7 then 7 else if 11 ≤ q ∧ q < 71 then (if (q - 11) % 10 = 0 ∨ (q - 11) % 10 = 2 then 0 else 7)
  else if 71 ≤ q ∧ q < 79 then 128 else if q = 79 then 2 else if q = 80 then 49 else if q = 81 ∨ q = 82 then 7 else 0
def cel (ad : Int → Nat) (cy : CY) (σ : St) (q : Int) : va_E :=
  if 0 < alen q then .inl (cy.1, (alen q).toNat, .inl (fun k => iI (σ q k)))
  else if q = 0 then .inr (6, [.ref (ad (TB 0)), .ref (ad 1), .ref (ad 3), .ref (ad 6), .ref (ad 8), .ref (ad 10)])
  else if q = 1 then .inr (0, [.int (iI (σ q 0)), .ref (ad 2)])
  else if q = 2 then .inl (cy.2.2.1, 4, .inr (.inr (.inr (.inr (fun k => some (ad (TB (σ q k))))))))
  else if q = 3 then .inr (1, [.ref (ad 4), .int (iI (σ q 1)), .ref (ad (TB 0)), .ref (ad 5)])
  else if q = 5 then .inl (cy.2.2.2, 8, .inr (.inr (.inr (.inr (fun k => some (ad (LR k)))))))
  else if q = 6 then .inr (2, [.ref (ad 7), .ref (ad (TB 0)), .ref (ad 3)])
  else if q = 8 then .inr (5, [.int (iI (σ q 0)), .ref (ad 9)])
  else if q = 9 then .inl (cy.2.1, 80, .inl (fun k => iI (σ q k)))
  else if q = 10 then .inr (3, [.int (iI (σ q 0)), .int (iI (σ q 1)), .ref (ad (TB 5)), .ref (ad 8)])
  else if (q - 11) % 10 = 0 then .inr (4, [.int (iI (σ q 0)), .int (iI (σ q 1)), .ref (ad (q + 1)), .ref (ad (q + 2))])
  else .inl (cy.2.2.2, 7, .inr (.inr (.inr (.inr (fun k => some (ad (q + 1 + k)))))))
theorem cel_congr {ad : Int → Nat} {cy : CY} {σ σ' : St} {q : Int} (h : ∀ k, σ q k = σ' q k) : cel ad cy σ q = cel ad cy σ' q := by
  have e : σ q = σ' q := funext h
  unfold cel
  rw [e]
theorem cel_I {ad : Int → Nat} {cy : CY} {σ : St} {q : Int} (h : 0 < alen q) : cel ad cy σ q = .inl (cy.1, (alen q).toNat, .inl (fun k => iI (σ q k))) := by
  unfold cel
  rw [if_pos h]
theorem cel_0 {ad : Int → Nat} {cy : CY} {σ : St} : cel ad cy σ 0 = .inr (6, [.ref (ad (TB 0)), .ref (ad 1), .ref (ad 3), .ref (ad 6), .ref (ad 8), .ref (ad 10)]) := rfl
theorem cel_1 {ad : Int → Nat} {cy : CY} {σ : St} : cel ad cy σ 1 = .inr (0, [.int (iI (σ 1 0)), .ref (ad 2)]) := rfl
theorem cel_2 {ad : Int → Nat} {cy : CY} {σ : St} : cel ad cy σ 2 = .inl (cy.2.2.1, 4, .inr (.inr (.inr (.inr (fun k => some (ad (TB (σ 2 k)))))))) := rfl
theorem cel_3 {ad : Int → Nat} {cy : CY} {σ : St} : cel ad cy σ 3 = .inr (1, [.ref (ad 4), .int (iI (σ 3 1)), .ref (ad (TB 0)), .ref (ad 5)]) := rfl
theorem cel_5 {ad : Int → Nat} {cy : CY} {σ : St} : cel ad cy σ 5 = .inl (cy.2.2.2, 8, .inr (.inr (.inr (.inr (fun k => some (ad (LR k))))))) := rfl
theorem cel_6 {ad : Int → Nat} {cy : CY} {σ : St} : cel ad cy σ 6 = .inr (2, [.ref (ad 7), .ref (ad (TB 0)), .ref (ad 3)]) := rfl
theorem cel_8 {ad : Int → Nat} {cy : CY} {σ : St} : cel ad cy σ 8 = .inr (5, [.int (iI (σ 8 0)), .ref (ad 9)]) := rfl
theorem cel_9 {ad : Int → Nat} {cy : CY} {σ : St} : cel ad cy σ 9 = .inl (cy.2.1, 80, .inl (fun k => iI (σ 9 k))) := rfl
theorem cel_10 {ad : Int → Nat} {cy : CY} {σ : St} : cel ad cy σ 10 = .inr (3, [.int (iI (σ 10 0)), .int (iI (σ 10 1)), .ref (ad (TB 5)), .ref (ad 8)]) := rfl
theorem t6 {t : Int} (h : 0 ≤ t ∧ t < 6) : t = 0 ∨ t = 1 ∨ t = 2 ∨ t = 3 ∨ t = 4 ∨ t = 5 := by omega
theorem cel_TB {ad : Int → Nat} {cy : CY} {σ : St} {t : Int} (h : 0 ≤ t ∧ t < 6) : cel ad cy σ (TB t) = .inr (4, [.int (iI (σ (TB t) 0)), .int (iI (σ (TB t) 1)), .ref (ad (TI t)), .ref (ad (TC t))]) := by
  rcases t6 h with rfl | rfl | rfl | rfl | rfl | rfl <;> rfl
theorem cel_TC {ad : Int → Nat} {cy : CY} {σ : St} {t : Int} (h : 0 ≤ t ∧ t < 6) : cel ad cy σ (TC t) = .inl (cy.2.2.2, 7, .inr (.inr (.inr (.inr (fun k => some (ad (TR t k))))))) := by
  rcases t6 h with rfl | rfl | rfl | rfl | rfl | rfl <;> rfl
/-- how many cells the world has: one more where the law has prices of its own -/
def nC (ad : Int → Nat) : Nat := if ad (-1) = 0 then 82 else 83
theorem nC_b (ad : Int → Nat) : 82 ≤ nC ad ∧ nC ad ≤ 83 := by
  unfold nC
  split <;> omega
def gw (ad : Int → Nat) (cy : CY) (σ : St) : va_W := (List.range (nC ad)).map (fun i : Nat => (ad i, cel ad cy σ i))
def Ap (ad : Int → Nat) : Prop := ∀ q q' : Int, 0 ≤ q → q < 83 → 0 ≤ q' → q' < 83 → ad q = ad q' → q = q'
def AA (ad : Int → Nat) : Nat → Prop := fun a => ∃ q : Int, 0 ≤ q ∧ q < 83 ∧ a = ad q
theorem gw_atN {ad : Int → Nat} {cy : CY} {σ : St} {q : Int} (h : 0 ≤ q ∧ q < nC ad) : (gw ad cy σ)[q.toNat]? = some (ad q, cel ad cy σ q) := by
  unfold gw
  rw [List.getElem?_map, List.getElem?_range (by omega)]
  show some (ad (q.toNat : Int), cel ad cy σ (q.toNat : Int)) = _
  rw [Int.toNat_of_nonneg h.1]
theorem gw_setN {ad : Int → Nat} {cy : CY} {σ σ' : St} {q : Int} (h : 0 ≤ q ∧ q < nC ad) (he : ∀ q' k, q' ≠ q → σ' q' k = σ q' k) : (gw ad cy σ).set q.toNat (ad q, cel ad cy σ' q) = gw ad cy σ' := by
  apply List.ext_getElem?
  intro i
  by_cases hi : i < nC ad
  · by_cases hq : i = q.toNat
    · subst hq
      rw [List.getElem?_set_self (by unfold gw; simp; omega), gw_atN h]
    · rw [List.getElem?_set_ne (Ne.symm hq)]
      have h1 := gw_atN (ad := ad) (cy := cy) (σ := σ) (q := (i : Int)) ⟨by omega, by omega⟩
      have h2 := gw_atN (ad := ad) (cy := cy) (σ := σ') (q := (i : Int)) ⟨by omega, by omega⟩
      rw [Int.toNat_natCast] at h1 h2
      rw [h1, h2, cel_congr (fun k => he i k (by omega))]
  · have l : ∀ τ : St, (gw ad cy τ).length = nC ad := fun τ => by unfold gw; simp
    rw [List.getElem?_eq_none (by rw [List.length_set, l]; omega), List.getElem?_eq_none (by rw [l]; omega)]
theorem gw_at {ad : Int → Nat} {cy : CY} {σ : St} {q : Int} (h : 0 ≤ q ∧ q < 82) : (gw ad cy σ)[q.toNat]? = some (ad q, cel ad cy σ q) := gw_atN (by have := nC_b ad; omega)
theorem gw_set {ad : Int → Nat} {cy : CY} {σ σ' : St} {q : Int} (h : 0 ≤ q ∧ q < 82) (he : ∀ q' k, q' ≠ q → σ' q' k = σ q' k) : (gw ad cy σ).set q.toNat (ad q, cel ad cy σ' q) = gw ad cy σ' := gw_setN (by have := nC_b ad; omega) he
theorem gw_D {ad : Int → Nat} {cy : CY} {σ : St} {A : Nat → Prop} (hA : Ap ad) (hc : ∀ q : Int, 0 ≤ q → q < 83 → A (ad q)) : va_D A (gw ad cy σ) := by
  have key : ∀ (k : Nat) (x : Nat × va_E), (gw ad cy σ)[k]? = some x → k < nC ad ∧ x.1 = ad k := by
    intro k x hx
    have hl : k < nC ad := by
      have := (List.getElem?_eq_some_iff.mp hx).1
      unfold gw at this
      simpa using this
    have h1 := gw_atN (ad := ad) (cy := cy) (σ := σ) (q := (k : Int)) ⟨by omega, by omega⟩
    rw [Int.toNat_natCast, hx] at h1
    exact ⟨hl, by rw [Option.some.inj h1]⟩
  have hnc := nC_b ad
  refine ⟨fun i j x y hi hj hxy => ?_, fun k x hx => ?_⟩
  · obtain ⟨i1, i2⟩ := key i x hi
    obtain ⟨j1, j2⟩ := key j y hj
    rw [i2, j2] at hxy
    have := hA i j (by omega) (by omega) (by omega) (by omega) hxy
    omega
  · obtain ⟨i1, i2⟩ := key k x hx
    rw [i2]
    exact hc k (by omega) (by omega)
def tysOf (cy : CY) : List (ClassId × FieldType) := [(cy.1, .int), (cy.2.1, .char), (cy.2.2.1, .object "PricedPairs$Table"), (cy.2.2.2, .array .int)]
/-- the environment of a frame: program, launch, env, room, start, method, arguments, frames below, method, code, end, fields' places, classes of arrays, free cells, cells and slots made so far -/
abbrev EV : Type := Program × Launch × Env × Room × State × MethodId × Array Value × List Frame × Method × Code × (State → Prop) × va_G × CY × (Nat → Prop) × Nat × Nat
def LV (ls : Array Slot) (nL : Nat) (lv : List (Option Value)) : Prop := ls.size = nL ∧ lv_wf ls ∧ ∀ (i : Nat) (v : Value), lv[i]? = some (some v) → ls[i]? = some (.val v)
def Cx (E : EV) (ad : Int → Nat) (cc : ByteArray) (nL : Nat) (own : String) (Ts : List Cond) (fr lo : Nat) : Prop := match E with
  | (p, l, e, R, s, m, args, below, meth, c, Q, D, cy, A, k, n) => p.tables.exec = Jvm.exec ∧ c.code = cc ∧ c.maxLocals = nL ∧ s.vm.findClass own = some m.cls ∧ (∀ w ∈ Ts, w.before args s = true) ∧ va_K D vwCl (tysOf cy) s ∧ Ap ad ∧ (∀ q : Int, 0 ≤ q → q < 83 → A (ad q)) ∧ k ≤ R.cells ∧ n ≤ R.slots ∧ fr ≤ R.frames ∧ lo ≤ R.locals
def WG (E : EV) (ad : Int → Nat) (nL : Nat) (σ : St) (pc : Nat) (lv : List (Option Value)) (st : List Value) : Prop := match E with
  | (p, l, e, R, s, m, args, below, meth, c, Q, D, cy, A, k, n) => RG σ → ∀ (H : Heap) (locs : List Loc) (ls : Array Slot), va_P D vwCl (gw ad cy σ) H → va_S A s.heap H locs → LV ls nL lv → W p l e R s m args below meth c H locs k n Q (F0 m pc ls st)
theorem LV.sub {ls : Array Slot} {nL : Nat} {lv lv' : List (Option Value)} (h : LV ls nL lv) (hs : ∀ (i : Nat) (v : Value), lv'[i]? = some (some v) → lv[i]? = some (some v)) : LV ls nL lv' := ⟨h.1, h.2.1, fun i v hv => h.2.2 i v (hs i v hv)⟩
def lvl (lv : List (Option Value)) : List (Nat × Value) := (List.range lv.length).filterMap (fun i => (lv[i]?).join.map (fun v => (i, v)))
theorem lvl_mem {lv : List (Option Value)} {i : Nat} {v : Value} : (i, v) ∈ lvl lv ↔ lv[i]? = some (some v) := by
  unfold lvl
  rw [List.mem_filterMap]
  constructor
  · rintro ⟨j, hj, h⟩
    cases hl : lv[j]? with
    | none => rw [hl] at h; cases h
    | some o =>
      cases o with
      | none => rw [hl] at h; cases h
      | some x =>
        rw [hl] at h
        have h' : (j, x) = (i, v) := Option.some.inj h
        cases h'
        exact hl
  · intro h
    refine ⟨i, List.mem_range.mpr (List.getElem?_eq_some_iff.mp h).1, ?_⟩
    rw [h]
    rfl
theorem LV.has {ls : Array Slot} {nL : Nat} {lv : List (Option Value)} (h : LV ls nL lv) : lv_has ls nL (lvl lv) := ⟨h.1, h.2.1, fun q hq => h.2.2 q.1 q.2 (lvl_mem.mp hq)⟩
/-- after a store of one slot: what stood ahead of it is no long -/
theorem LV.put {ls' : Array Slot} {nL : Nat} {lv : List (Option Value)} {i : Nat} {x : Value} (h : lv_has ls' nL ((i, x) :: (lvl lv).filter (fun q => !(q.1 == i) && !(q.1 + 1 == i && q.2.category == 2)))) (hc : ∀ v, lv[i - 1]? = some (some v) → i = 0 ∨ v.category = 1) : LV ls' nL (lv.set i (some x)) := by
  refine ⟨h.1, h.2.1, fun j v hv => ?_⟩
  by_cases hj : j = i
  · subst hj
    have hl : j < lv.length := by
      have := (List.getElem?_eq_some_iff.mp hv).1
      rwa [List.length_set] at this
    rw [List.getElem?_set_self hl] at hv
    cases hv
    exact h.2.2 (j, x) List.mem_cons_self
  · rw [List.getElem?_set_ne (Ne.symm hj)] at hv
    refine h.2.2 (j, v) (List.mem_cons_of_mem _ (List.mem_filter.mpr ⟨lvl_mem.mpr hv, ?_⟩))
    by_cases h2 : j + 1 = i
    · have := hc v (by rw [← h2]; exact hv)
      have h3 : v.category = 1 := by rcases this with h4 | h4; omega; exact h4
      simp [hj, h3]
    · simp [hj, h2]
/-- a method's start and end, in the layer's words -/
def WS (D : va_G) (ad : Int → Nat) (cy : CY) (σ : St) (U : State) : Prop := va_P D vwCl (gw ad cy σ) U.heap ∧ va_K D vwCl (tysOf cy) U ∧ Ap ad ∧ RG σ
def rO (r : Option Int) : Option Value := r.map (fun z => .int (iI z))
def GQ (D : va_G) (ad : Int → Nat) (cy : CY) (post : Option Int → St → Prop) : Array Value → State → Outcome → State → Prop := fun _ st o t => (∃ (r : Option Int) (σ' : St), o = .returned (rO r) ∧ post r σ' ∧ WS D ad cy σ' t) ∧ va_F (AA ad) st t
theorem rg_up {σ : St} {q k v : Int} (h : RG σ) (hv : InR v) : RG (up σ q k v) := fun a b => by
  unfold up
  by_cases e : a = q ∧ b = k
  · rw [if_pos e]; exact hv
  · rw [if_neg e]; exact h a b
theorem WS.calling {D : va_G} {ad : Int → Nat} {cy : CY} {σ : St} {U : State} {g : JFrame} {mk : MethodId} {a : Array Value} (h : WS D ad cy σ U) : WS D ad cy σ (U.calling g mk a) := ⟨h.1, va_K.moved (u := U) (U := U.calling g mk a) (Vm.Alike.refl U.vm) h.2.1, h.2.2⟩
def MG (l : Launch) (y : MethodName) (ws : List Cond) (fr lo : Nat) (D : va_G) (ad : Int → Nat) (cy : CY) (σ : St) (avs : List Value) (post : Option Int → St → Prop) : Prop :=
  Met l y ws { frames := fr, cells := 0, slots := 0, locals := lo } (va_Pc avs (WS D ad cy σ)) (GQ D ad cy post) 0 0 (AA ad)
/-- the frame's end is that of a method with this contract -/
def Rt (E : EV) (ad : Int → Nat) (ret : Option FieldType) (post : Option Int → St → Prop) : Prop := match E with
  | (p, l, e, R, s, m, args, below, meth, c, Q, D, cy, A, k, n) => meth.sig.returnType = ret ∧ meth.locks = false ∧ Q = MQ below (GQ D ad cy post) args s k n (AA ad) ∧ A = AA ad ∧ k = 0 ∧ n = 0
