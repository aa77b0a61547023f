/-! THE MAKERS: a world that grows, its cells one behind another -/
theorem ao_spec {t : FieldType} {s : State} (h : va_AOA t s) : ∃ comp c k, s.vm.findClass (FieldType.array t).toString = some comp ∧ (s.vm.classes.findIdx? fun x => match x.kind with | .array component _ => component == comp | _ => false) = some c ∧ s.vm.classes[c]? = some k ∧ k.kind = .array comp (.array t) ∧ s.vm.findClass ("[" ++ (FieldType.array t).toString) = some c := by
  unfold va_AOA Cond.before at h
  simp only [Cond.holds, Cond.value, beq_iff_eq] at h
  obtain ⟨comp, hc⟩ : ∃ comp, s.vm.findClass (FieldType.array t).toString = some comp := by
    cases e : s.vm.findClass (FieldType.array t).toString with
    | none => rw [e] at h; cases h
    | some comp => exact ⟨comp, rfl⟩
  rw [hc] at h
  simp only [Option.bind_some, Option.bind_eq_some_iff, Option.map_eq_some_iff] at h
  obtain ⟨c, hi, k, hk, hb⟩ := h
  have hp := (Array.findIdx?_eq_some_iff_getElem.mp hi).2.1
  rw [(Array.getElem?_eq_some_iff.mp hk).2] at hp
  cases hkind : k.kind with
  | array component ty =>
    rw [hkind] at hb hp
    simp at hb hp
    exact ⟨comp, c, k, hc, hi, hk, by rw [hkind, hp, hb.1], hb.2⟩
  | _ => rw [hkind] at hb; simp at hb
theorem ao_moved {t : FieldType} {u U : State} (hvm : u.vm.Alike U.vm) (h : va_AOA t u) : va_AOA t U := by
  obtain ⟨comp, c, k, h1, h2, h3, h4, h5⟩ := ao_spec h
  obtain ⟨k', hk', he⟩ := hvm.2.2 _ _ h3
  have hi : (U.vm.classes.findIdx? fun (x : Class) => match x.kind with | .array component _ => component == comp | _ => false) = some c := by
    have e1 := va_idx_bare U.vm comp
    have e2 := va_idx_bare u.vm comp
    have eb : U.vm.bare = u.vm.bare := by first | exact hvm.bare_eq | exact hvm.bare_eq.symm
    rw [eb] at e1
    exact e1.symm.trans (e2.trans h2)
  have hkind : k'.kind = .array comp (.array t) := by rw [he]; exact h4
  have f1 : U.vm.findClass (FieldType.array t).toString = some comp := by rw [hvm.findClass]; exact h1
  have f2 : U.vm.findClass ("[" ++ (FieldType.array t).toString) = some c := by rw [hvm.findClass]; exact h5
  unfold va_AOA Cond.before Cond.holds
  simp only [Cond.value]
  rw [f1, Option.bind_some]
  erw [hi]
  rw [Option.bind_some, hk', Option.map_some, hkind]
  simp [f2]
def AOs (U : State) : Prop := va_AOA .int U ∧ va_AO RX4 U
theorem AOs.moved {u U : State} (hvm : u.vm.Alike U.vm) (h : AOs u) : AOs U := ⟨ao_moved hvm h.1, h.2.moved hvm⟩
/-- a maker's frame: its room, and which cells it may change -/
def CC (E : EV) (cc : ByteArray) (nL : Nat) (own : String) (Ts : List Cond) (fr lo mc ms : Nat) : Prop := match E with
  | (p, l, e, R, s, m, args, below, meth, c, Q, D, cy, A, k, n) => p.tables.exec = Jvm.exec ∧ c.code = cc ∧ c.maxLocals = nL ∧ s.vm.findClass own = some m.cls ∧ (∀ w ∈ Ts, w.before args s = true) ∧ (∀ q : Nat, s.heap.size ≤ q → A q) ∧ AOs s ∧ fr ≤ R.frames ∧ lo ≤ R.locals ∧ mc ≤ R.cells ∧ ms ≤ R.slots
def WC (E : EV) (nL : Nat) (tys : List (ClassId × FieldType)) (ws : va_W) (k n pc : Nat) (lv : List (Option Value)) (st : List Value) : Prop := match E with
  | (p, l, e, R, s, m, args, below, meth, c, Q, D, cy, A, k0, n0) => ∀ (H : Heap) (locs : List Loc) (ls : Array Slot), va_K D vwCl tys s → va_P D vwCl ws H → va_D A ws → va_S A s.heap H locs → LV ls nL lv → W p l e R s m args below meth c H locs k n Q (F0 m pc ls st)
def rfs (n : Nat) (r : Nat → Nat) : vp_A := (n, .inr (.inr (.inr (.inr (fun i => if i < n then some (r i) else none)))))
/-- the frame is a constructor's -/
def EI (E : EV) : Prop := match E with
  | (p, l, e, R, s, m, args, below, meth, c, Q, D, cy, A, k0, n0) => meth.name = "<init>"
section MAKE
variable {E : EV} {cc : ByteArray} {nL : Nat} {own : String} {Ts : List Cond} {fr lo mc ms : Nat} {tys : List (ClassId × FieldType)} {ws : va_W} {k n pc : Nat} {lv : List (Option Value)} {st : List Value}
theorem c_iload0 (X : CC E cc nL own Ts fr lo mc ms) {r : List (Option Value)} {x : Int32} (hdg : decode cc pc = .ok (.iload_n 0, 1)) (kk : WC E nL tys (ws) (k) (n) (pc + 1) (some (.int x) :: r) (.int x :: st)) : WC E nL tys (ws) (k) (n) (pc) (some (.int x) :: r) (st) := by
  obtain ⟨p, l, e, R, s, m, args, below, meth, c, Q, D, cy, A, k0, n0⟩ := E
  obtain ⟨hx, hb, hml, hown, hts, hA, hO, hfr, hlo, hmc, hms⟩ := X
  intro H locs ls hK hP hD hS hl
  exact lv_iload_n hx hb hdg rfl (hl.2.2 0 _ rfl) (kk H locs ls hK hP hD hS hl)
theorem c_aload0 (X : CC E cc nL own Ts fr lo mc ms) {r : List (Option Value)} {x : Nat} (hdg : decode cc pc = .ok (.aload_n 0, 1)) (kk : WC E nL tys (ws) (k) (n) (pc + 1) (some (.ref x) :: r) (.ref x :: st)) : WC E nL tys (ws) (k) (n) (pc) (some (.ref x) :: r) (st) := by
  obtain ⟨p, l, e, R, s, m, args, below, meth, c, Q, D, cy, A, k0, n0⟩ := E
  obtain ⟨hx, hb, hml, hown, hts, hA, hO, hfr, hlo, hmc, hms⟩ := X
  intro H locs ls hK hP hD hS hl
  exact lv_aload_n hx hb hdg rfl (hl.2.2 0 _ rfl) (kk H locs ls hK hP hD hS hl)
theorem c_iload1 (X : CC E cc nL own Ts fr lo mc ms) {a : Option Value} {r : List (Option Value)} {x : Int32} (hdg : decode cc pc = .ok (.iload_n 1, 1)) (kk : WC E nL tys (ws) (k) (n) (pc + 1) (a :: some (.int x) :: r) (.int x :: st)) : WC E nL tys (ws) (k) (n) (pc) (a :: some (.int x) :: r) (st) := by
  obtain ⟨p, l, e, R, s, m, args, below, meth, c, Q, D, cy, A, k0, n0⟩ := E
  obtain ⟨hx, hb, hml, hown, hts, hA, hO, hfr, hlo, hmc, hms⟩ := X
  intro H locs ls hK hP hD hS hl
  exact lv_iload_n hx hb hdg rfl (hl.2.2 1 _ rfl) (kk H locs ls hK hP hD hS hl)
theorem c_istore1 (X : CC E cc nL own Ts fr lo mc ms) {a : Option Value} {r : List (Option Value)} {u : Option Value} {x : Int32} (hdg : decode cc pc = .ok (.istore_n 1, 1)) (hn : 1 < nL) (hc : a = none ∨ ∃ v, a = some v ∧ v.category = 1) (kk : WC E nL tys (ws) (k) (n) (pc + 1) (a :: some (.int x) :: r) (st)) : WC E nL tys (ws) (k) (n) (pc) (a :: u :: r) (.int x :: st) := by
  obtain ⟨p, l, e, R, s, m, args, below, meth, c, Q, D, cy, A, k0, n0⟩ := E
  obtain ⟨hx, hb, hml, hown, hts, hA, hO, hfr, hlo, hmc, hms⟩ := X
  intro H locs ls hK hP hD hS hl
  refine lv_istore_n (i := 1) hx hb hdg rfl hl.has hn rfl (fun ls2 hl2 => ?_)
  exact kk H locs ls2 hK hP hD hS (LV.put hl2 (fun v hv => Or.inr (by
        have e9 : a = some v := Option.some.inj hv
        rcases hc with h9 | ⟨v9, h9, h8⟩
        · rw [h9] at e9; cases e9
        · rw [h9] at e9; cases e9; exact h8)))
theorem c_aload1 (X : CC E cc nL own Ts fr lo mc ms) {a : Option Value} {r : List (Option Value)} {x : Nat} (hdg : decode cc pc = .ok (.aload_n 1, 1)) (kk : WC E nL tys (ws) (k) (n) (pc + 1) (a :: some (.ref x) :: r) (.ref x :: st)) : WC E nL tys (ws) (k) (n) (pc) (a :: some (.ref x) :: r) (st) := by
  obtain ⟨p, l, e, R, s, m, args, below, meth, c, Q, D, cy, A, k0, n0⟩ := E
  obtain ⟨hx, hb, hml, hown, hts, hA, hO, hfr, hlo, hmc, hms⟩ := X
  intro H locs ls hK hP hD hS hl
  exact lv_aload_n hx hb hdg rfl (hl.2.2 1 _ rfl) (kk H locs ls hK hP hD hS hl)
theorem c_astore1 (X : CC E cc nL own Ts fr lo mc ms) {a : Option Value} {r : List (Option Value)} {u : Option Value} {x : Nat} (hdg : decode cc pc = .ok (.astore_n 1, 1)) (hn : 1 < nL) (hc : a = none ∨ ∃ v, a = some v ∧ v.category = 1) (kk : WC E nL tys (ws) (k) (n) (pc + 1) (a :: some (.ref x) :: r) (st)) : WC E nL tys (ws) (k) (n) (pc) (a :: u :: r) (.ref x :: st) := by
  obtain ⟨p, l, e, R, s, m, args, below, meth, c, Q, D, cy, A, k0, n0⟩ := E
  obtain ⟨hx, hb, hml, hown, hts, hA, hO, hfr, hlo, hmc, hms⟩ := X
  intro H locs ls hK hP hD hS hl
  refine lv_astore_n (i := 1) hx hb hdg rfl hl.has hn rfl (fun ls2 hl2 => ?_)
  exact kk H locs ls2 hK hP hD hS (LV.put hl2 (fun v hv => Or.inr (by
        have e9 : a = some v := Option.some.inj hv
        rcases hc with h9 | ⟨v9, h9, h8⟩
        · rw [h9] at e9; cases e9
        · rw [h9] at e9; cases e9; exact h8)))
theorem c_iload2 (X : CC E cc nL own Ts fr lo mc ms) {a b : Option Value} {r : List (Option Value)} {x : Int32} (hdg : decode cc pc = .ok (.iload_n 2, 1)) (kk : WC E nL tys (ws) (k) (n) (pc + 1) (a :: b :: some (.int x) :: r) (.int x :: st)) : WC E nL tys (ws) (k) (n) (pc) (a :: b :: some (.int x) :: r) (st) := by
  obtain ⟨p, l, e, R, s, m, args, below, meth, c, Q, D, cy, A, k0, n0⟩ := E
  obtain ⟨hx, hb, hml, hown, hts, hA, hO, hfr, hlo, hmc, hms⟩ := X
  intro H locs ls hK hP hD hS hl
  exact lv_iload_n hx hb hdg rfl (hl.2.2 2 _ rfl) (kk H locs ls hK hP hD hS hl)
theorem c_istore2 (X : CC E cc nL own Ts fr lo mc ms) {a b : Option Value} {r : List (Option Value)} {u : Option Value} {x : Int32} (hdg : decode cc pc = .ok (.istore_n 2, 1)) (hn : 2 < nL) (hc : b = none ∨ ∃ v, b = some v ∧ v.category = 1) (kk : WC E nL tys (ws) (k) (n) (pc + 1) (a :: b :: some (.int x) :: r) (st)) : WC E nL tys (ws) (k) (n) (pc) (a :: b :: u :: r) (.int x :: st) := by
  obtain ⟨p, l, e, R, s, m, args, below, meth, c, Q, D, cy, A, k0, n0⟩ := E
  obtain ⟨hx, hb, hml, hown, hts, hA, hO, hfr, hlo, hmc, hms⟩ := X
  intro H locs ls hK hP hD hS hl
  refine lv_istore_n (i := 2) hx hb hdg rfl hl.has hn rfl (fun ls2 hl2 => ?_)
  exact kk H locs ls2 hK hP hD hS (LV.put hl2 (fun v hv => Or.inr (by
        have e9 : b = some v := Option.some.inj hv
        rcases hc with h9 | ⟨v9, h9, h8⟩
        · rw [h9] at e9; cases e9
        · rw [h9] at e9; cases e9; exact h8)))
theorem c_aload2 (X : CC E cc nL own Ts fr lo mc ms) {a b : Option Value} {r : List (Option Value)} {x : Nat} (hdg : decode cc pc = .ok (.aload_n 2, 1)) (kk : WC E nL tys (ws) (k) (n) (pc + 1) (a :: b :: some (.ref x) :: r) (.ref x :: st)) : WC E nL tys (ws) (k) (n) (pc) (a :: b :: some (.ref x) :: r) (st) := by
  obtain ⟨p, l, e, R, s, m, args, below, meth, c, Q, D, cy, A, k0, n0⟩ := E
  obtain ⟨hx, hb, hml, hown, hts, hA, hO, hfr, hlo, hmc, hms⟩ := X
  intro H locs ls hK hP hD hS hl
  exact lv_aload_n hx hb hdg rfl (hl.2.2 2 _ rfl) (kk H locs ls hK hP hD hS hl)
theorem c_astore2 (X : CC E cc nL own Ts fr lo mc ms) {a b : Option Value} {r : List (Option Value)} {u : Option Value} {x : Nat} (hdg : decode cc pc = .ok (.astore_n 2, 1)) (hn : 2 < nL) (hc : b = none ∨ ∃ v, b = some v ∧ v.category = 1) (kk : WC E nL tys (ws) (k) (n) (pc + 1) (a :: b :: some (.ref x) :: r) (st)) : WC E nL tys (ws) (k) (n) (pc) (a :: b :: u :: r) (.ref x :: st) := by
  obtain ⟨p, l, e, R, s, m, args, below, meth, c, Q, D, cy, A, k0, n0⟩ := E
  obtain ⟨hx, hb, hml, hown, hts, hA, hO, hfr, hlo, hmc, hms⟩ := X
  intro H locs ls hK hP hD hS hl
  refine lv_astore_n (i := 2) hx hb hdg rfl hl.has hn rfl (fun ls2 hl2 => ?_)
  exact kk H locs ls2 hK hP hD hS (LV.put hl2 (fun v hv => Or.inr (by
        have e9 : b = some v := Option.some.inj hv
        rcases hc with h9 | ⟨v9, h9, h8⟩
        · rw [h9] at e9; cases e9
        · rw [h9] at e9; cases e9; exact h8)))
theorem c_iload3 (X : CC E cc nL own Ts fr lo mc ms) {a b d : Option Value} {r : List (Option Value)} {x : Int32} (hdg : decode cc pc = .ok (.iload_n 3, 1)) (kk : WC E nL tys (ws) (k) (n) (pc + 1) (a :: b :: d :: some (.int x) :: r) (.int x :: st)) : WC E nL tys (ws) (k) (n) (pc) (a :: b :: d :: some (.int x) :: r) (st) := by
  obtain ⟨p, l, e, R, s, m, args, below, meth, c, Q, D, cy, A, k0, n0⟩ := E
  obtain ⟨hx, hb, hml, hown, hts, hA, hO, hfr, hlo, hmc, hms⟩ := X
  intro H locs ls hK hP hD hS hl
  exact lv_iload_n hx hb hdg rfl (hl.2.2 3 _ rfl) (kk H locs ls hK hP hD hS hl)
theorem c_istore3 (X : CC E cc nL own Ts fr lo mc ms) {a b d : Option Value} {r : List (Option Value)} {u : Option Value} {x : Int32} (hdg : decode cc pc = .ok (.istore_n 3, 1)) (hn : 3 < nL) (hc : d = none ∨ ∃ v, d = some v ∧ v.category = 1) (kk : WC E nL tys (ws) (k) (n) (pc + 1) (a :: b :: d :: some (.int x) :: r) (st)) : WC E nL tys (ws) (k) (n) (pc) (a :: b :: d :: u :: r) (.int x :: st) := by
  obtain ⟨p, l, e, R, s, m, args, below, meth, c, Q, D, cy, A, k0, n0⟩ := E
  obtain ⟨hx, hb, hml, hown, hts, hA, hO, hfr, hlo, hmc, hms⟩ := X
  intro H locs ls hK hP hD hS hl
  refine lv_istore_n (i := 3) hx hb hdg rfl hl.has hn rfl (fun ls2 hl2 => ?_)
  exact kk H locs ls2 hK hP hD hS (LV.put hl2 (fun v hv => Or.inr (by
        have e9 : d = some v := Option.some.inj hv
        rcases hc with h9 | ⟨v9, h9, h8⟩
        · rw [h9] at e9; cases e9
        · rw [h9] at e9; cases e9; exact h8)))
theorem c_aload3 (X : CC E cc nL own Ts fr lo mc ms) {a b d : Option Value} {r : List (Option Value)} {x : Nat} (hdg : decode cc pc = .ok (.aload_n 3, 1)) (kk : WC E nL tys (ws) (k) (n) (pc + 1) (a :: b :: d :: some (.ref x) :: r) (.ref x :: st)) : WC E nL tys (ws) (k) (n) (pc) (a :: b :: d :: some (.ref x) :: r) (st) := by
  obtain ⟨p, l, e, R, s, m, args, below, meth, c, Q, D, cy, A, k0, n0⟩ := E
  obtain ⟨hx, hb, hml, hown, hts, hA, hO, hfr, hlo, hmc, hms⟩ := X
  intro H locs ls hK hP hD hS hl
  exact lv_aload_n hx hb hdg rfl (hl.2.2 3 _ rfl) (kk H locs ls hK hP hD hS hl)
theorem c_astore3 (X : CC E cc nL own Ts fr lo mc ms) {a b d : Option Value} {r : List (Option Value)} {u : Option Value} {x : Nat} (hdg : decode cc pc = .ok (.astore_n 3, 1)) (hn : 3 < nL) (hc : d = none ∨ ∃ v, d = some v ∧ v.category = 1) (kk : WC E nL tys (ws) (k) (n) (pc + 1) (a :: b :: d :: some (.ref x) :: r) (st)) : WC E nL tys (ws) (k) (n) (pc) (a :: b :: d :: u :: r) (.ref x :: st) := by
  obtain ⟨p, l, e, R, s, m, args, below, meth, c, Q, D, cy, A, k0, n0⟩ := E
  obtain ⟨hx, hb, hml, hown, hts, hA, hO, hfr, hlo, hmc, hms⟩ := X
  intro H locs ls hK hP hD hS hl
  refine lv_astore_n (i := 3) hx hb hdg rfl hl.has hn rfl (fun ls2 hl2 => ?_)
  exact kk H locs ls2 hK hP hD hS (LV.put hl2 (fun v hv => Or.inr (by
        have e9 : d = some v := Option.some.inj hv
        rcases hc with h9 | ⟨v9, h9, h8⟩
        · rw [h9] at e9; cases e9
        · rw [h9] at e9; cases e9; exact h8)))
theorem c_astore4 (X : CC E cc nL own Ts fr lo mc ms) {a b d f : Option Value} {r : List (Option Value)} {u : Option Value} {x : Nat} (hdg : decode cc pc = .ok (.astore 4, 2)) (hn : 4 < nL) (hc : f = none ∨ ∃ v, f = some v ∧ v.category = 1) (kk : WC E nL tys (ws) (k) (n) (pc + 2) (a :: b :: d :: f :: some (.ref x) :: r) (st)) : WC E nL tys (ws) (k) (n) (pc) (a :: b :: d :: f :: u :: r) (.ref x :: st) := by
  obtain ⟨p, l, e, R, s, m, args, below, meth, c, Q, D, cy, A, k0, n0⟩ := E
  obtain ⟨hx, hb, hml, hown, hts, hA, hO, hfr, hlo, hmc, hms⟩ := X
  intro H locs ls hK hP hD hS hl
  refine lv_astore (i := 4) hx hb hdg hl.has hn rfl (fun ls2 hl2 => ?_)
  exact kk H locs ls2 hK hP hD hS (LV.put hl2 (fun v hv => Or.inr (by
        have e9 : f = some v := Option.some.inj hv
        rcases hc with h9 | ⟨v9, h9, h8⟩
        · rw [h9] at e9; cases e9
        · rw [h9] at e9; cases e9; exact h8)))
theorem c_iinc1 (X : CC E cc nL own Ts fr lo mc ms) {a : Option Value} {r : List (Option Value)} {z d : Int} (hdg : decode cc pc = .ok (.iinc 1 d, 3)) (hn : 1 < nL) (hc : a = none ∨ ∃ v, a = some v ∧ v.category = 1) (kk : WC E nL tys (ws) (k) (n) (pc + 3) (a :: some (.int (iI (z + d))) :: r) (st)) : WC E nL tys (ws) (k) (n) (pc) (a :: some (.int (iI z)) :: r) (st) := by
  obtain ⟨p, l, e, R, s, m, args, below, meth, c, Q, D, cy, A, k0, n0⟩ := E
  obtain ⟨hx, hb, hml, hown, hts, hA, hO, hfr, hlo, hmc, hms⟩ := X
  intro H locs ls hK hP hD hS hl
  obtain ⟨kl, hkk⟩ := List.getElem?_of_mem (lvl_mem.mpr (show (a :: some (.int (iI z)) :: r)[1]? = some (some (Value.int (iI z))) from rfl))
  refine lv_iinc (k := kl) (v := iI (z + d)) hx hb hdg hl.has hkk (iI_add z d) hn rfl (fun ls2 hl2 => ?_)
  exact kk H locs ls2 hK hP hD hS (LV.put hl2 (fun v hv => Or.inr (by
        have e9 : a = some v := Option.some.inj hv
        rcases hc with h9 | ⟨v9, h9, h8⟩
        · rw [h9] at e9; cases e9
        · rw [h9] at e9; cases e9; exact h8)))
theorem c_iconst (X : CC E cc nL own Ts fr lo mc ms) {z : Int} (hdg : decode cc pc = .ok (.iconst z, 1)) (kk : WC E nL tys (ws) (k) (n) (pc + 1) (lv) (.int (iI z) :: st)) : WC E nL tys (ws) (k) (n) (pc) (lv) (st) := by
  obtain ⟨p, l, e, R, s, m, args, below, meth, c, Q, D, cy, A, k0, n0⟩ := E
  obtain ⟨hx, hb, hml, hown, hts, hA, hO, hfr, hlo, hmc, hms⟩ := X
  intro H locs ls hK hP hD hS hl
  exact lv_iconst hx hb hdg rfl (kk H locs ls hK hP hD hS hl)
theorem c_bipush (X : CC E cc nL own Ts fr lo mc ms) {z : Int} (hdg : decode cc pc = .ok (.bipush z, 2)) (hv : (Int8.ofInt z).toInt32 = iI z) (kk : WC E nL tys (ws) (k) (n) (pc + 2) (lv) (.int (iI z) :: st)) : WC E nL tys (ws) (k) (n) (pc) (lv) (st) := by
  obtain ⟨p, l, e, R, s, m, args, below, meth, c, Q, D, cy, A, k0, n0⟩ := E
  obtain ⟨hx, hb, hml, hown, hts, hA, hO, hfr, hlo, hmc, hms⟩ := X
  intro H locs ls hK hP hD hS hl
  exact lv_bipush hx hb hdg hv (kk H locs ls hK hP hD hS hl)
theorem c_sipush (X : CC E cc nL own Ts fr lo mc ms) {z : Int} (hdg : decode cc pc = .ok (.sipush z, 3)) (hv : (Int16.ofInt z).toInt32 = iI z) (kk : WC E nL tys (ws) (k) (n) (pc + 3) (lv) (.int (iI z) :: st)) : WC E nL tys (ws) (k) (n) (pc) (lv) (st) := by
  obtain ⟨p, l, e, R, s, m, args, below, meth, c, Q, D, cy, A, k0, n0⟩ := E
  obtain ⟨hx, hb, hml, hown, hts, hA, hO, hfr, hlo, hmc, hms⟩ := X
  intro H locs ls hK hP hD hS hl
  exact lv_sipush hx hb hdg hv (kk H locs ls hK hP hD hS hl)
theorem c_dup (X : CC E cc nL own Ts fr lo mc ms) {v : Value} (hdg : decode cc pc = .ok (.dup, 1)) (hv : v.category = 1) (kk : WC E nL tys (ws) (k) (n) (pc + 1) (lv) (v :: v :: st)) : WC E nL tys (ws) (k) (n) (pc) (lv) (v :: st) := by
  obtain ⟨p, l, e, R, s, m, args, below, meth, c, Q, D, cy, A, k0, n0⟩ := E
  obtain ⟨hx, hb, hml, hown, hts, hA, hO, hfr, hlo, hmc, hms⟩ := X
  intro H locs ls hK hP hD hS hl
  exact lv_dup hx hb hdg hv (kk H locs ls hK hP hD hS hl)
theorem c_goto (X : CC E cc nL own Ts fr lo mc ms) {off : Int} {tgt : Nat} (hdg : decode cc pc = .ok (.goto off, 3)) (ht : (pc : Int) + off = (tgt : Int)) (kk : WC E nL tys (ws) (k) (n) (tgt) (lv) (st)) : WC E nL tys (ws) (k) (n) (pc) (lv) (st) := by
  obtain ⟨p, l, e, R, s, m, args, below, meth, c, Q, D, cy, A, k0, n0⟩ := E
  obtain ⟨hx, hb, hml, hown, hts, hA, hO, hfr, hlo, hmc, hms⟩ := X
  intro H locs ls hK hP hD hS hl
  exact lv_goto hx hb hdg ht (kk H locs ls hK hP hD hS hl)
theorem c_icmp_geT (X : CC E cc nL own Ts fr lo mc ms) {a b off : Int} {tgt : Nat} (hab : iI b ≤ iI a) (hdg : decode cc pc = .ok (.if_icmp .ge off, 3)) (ht : (pc : Int) + off = (tgt : Int)) (kk : WC E nL tys (ws) (k) (n) (tgt) (lv) (st)) : WC E nL tys (ws) (k) (n) (pc) (lv) (.int (iI b) :: .int (iI a) :: st) := by
  obtain ⟨p, l, e, R, s, m, args, below, meth, c, Q, D, cy, A, k0, n0⟩ := E
  obtain ⟨hx, hb, hml, hown, hts, hA, hO, hfr, hlo, hmc, hms⟩ := X
  intro H locs ls hK hP hD hS hl
  exact lv_icmp_ge hx hb hdg ht (fun _ => kk H locs ls hK hP hD hS hl) (fun h9 => absurd hab h9)
theorem c_icmp_geF (X : CC E cc nL own Ts fr lo mc ms) {a b off : Int} (hab : ¬ iI b ≤ iI a) (hdg : decode cc pc = .ok (.if_icmp .ge off, 3)) {tgt : Nat} (ht : (pc : Int) + off = (tgt : Int)) (kk : WC E nL tys (ws) (k) (n) (pc + 3) (lv) (st)) : WC E nL tys (ws) (k) (n) (pc) (lv) (.int (iI b) :: .int (iI a) :: st) := by
  obtain ⟨p, l, e, R, s, m, args, below, meth, c, Q, D, cy, A, k0, n0⟩ := E
  obtain ⟨hx, hb, hml, hown, hts, hA, hO, hfr, hlo, hmc, hms⟩ := X
  intro H locs ls hK hP hD hS hl
  exact lv_icmp_ge (tgt := tgt) hx hb hdg ht (fun h9 => absurd h9 hab) (fun _ => kk H locs ls hK hP hD hS hl)
theorem c_obj (X : CC E cc nL own Ts fr lo mc ms) {idx : Nat} {a : Nat} (h1 : Cond.methodLink own idx objectInit ∈ Ts) (h2 : Cond.instanceMethod objectInit ∈ Ts) (h3 : Cond.code objectInit ⟨#[0xb1]⟩ 1 none ∈ Ts) (hR : 1 ≤ fr ∧ 12 ≤ lo) (hst : st = []) (hdg : decode cc pc = .ok (.invokespecial idx, 3)) (kk : WC E nL tys (ws) (k) (n) (pc + 3) (lv) (st)) : WC E nL tys (ws) (k) (n) (pc) (lv) (.ref a :: st) := by
  obtain ⟨p, l, e, R, s, m, args, below, meth, c, Q, D, cy, A, k0, n0⟩ := E
  obtain ⟨hx, hb, hml, hown, hts, hA, hO, hfr, hlo, hmc, hms⟩ := X
  intro H locs ls hK hP hD hS hl
  subst hst
  refine W.objInit hx hb hown (hts _ h1) (hts _ h2) (hts _ h3) rfl (by rw [hml]; exact hl.1) rfl hdg (Nat.le_trans hR.1 hfr) ?_ ?_
  · exact Nat.le_trans (Nat.le_of_ble_eq_true rfl) (Nat.le_trans hR.2 hlo)
  · exact W.eq (g2 := F0 m (pc + 3) ls []) rfl (kk H locs ls hK hP hD hS hl)
theorem c_new (X : CC E cc nL own Ts fr lo mc ms) {idx ci N : Nat} {C : String} {T : u_T} {ty : Nat → FieldType} {fs : List Value} (hcl : Cond.classLink own idx C ∈ Ts) (hinst : Cond.instantiable C N ∈ Ts) (hini : Cond.initialized C ∈ Ts) (hin : ∀ w ∈ u_ws C T N, w ∈ Ts) (hty : ∀ k, k < N → parseFieldDescriptor (T k).2.2.1 = some (ty k)) (hc : vwCl[ci]? = some (C, T, N)) (hfs : ∀ j, j < N → defaultValue (ty j) = vp_V fs j) (hk : k + 1 ≤ mc) (hn : n + N ≤ ms) (hdg : decode cc pc = .ok (.new idx, 3)) (kk : ∀ q : Nat, WC E nL tys (ws ++ [(q, .inr (ci, fs))]) (k + 1) (n + N) (pc + 3) (lv) (.ref q :: st)) : WC E nL tys (ws) (k) (n) (pc) (lv) (st) := by
  obtain ⟨p, l, e, R, s, m, args, below, meth, c, Q, D, cy, A, k0, n0⟩ := E
  obtain ⟨hx, hb, hml, hown, hts, hA, hO, hfr, hlo, hmc, hms⟩ := X
  intro H locs ls hK hP hD hS hl
  refine va_new hx hb hts hin ty hty hown (hts _ hcl) (hts _ hinst) (hts _ hini) hK hP hD hS hA hc hfs (Nat.le_trans hk hmc) (Nat.le_trans hn hms) hdg (fun q H1 hP1 hD1 hS1 => ?_)
  exact kk q H1 locs ls hK hP1 hD1 hS1 hl
theorem c_newa (X : CC E cc nL own Ts fr lo mc ms) {atype : ArrayType} {ty : FieldType} {z : Int} {N : Nat} (hty : newarray.typeOf atype = ty) (harr : Cond.arrayClass (newarray.typeOf atype) ∈ Ts) (hz : ∀ cA : ClassId, vp_cell cA (zrs N) = arrV cA N (fun _ => defaultValue ty)) (hz0 : ¬ iI z < 0) (hz1 : (iI z).toNatClampNeg = N) (hbytes : N * componentBytes ty ≤ 536870912) (hk : k + 1 ≤ mc) (hn : n + N ≤ ms) (hdg : decode cc pc = .ok (.newarray atype, 2)) (kk : ∀ (q : Nat) (cA : ClassId), WC E nL (tys ++ [(cA, ty)]) (ws ++ [(q, .inl (cA, zrs N))]) (k + 1) (n + N) (pc + 2) (lv) (.ref q :: st)) : WC E nL tys (ws) (k) (n) (pc) (lv) (.int (iI z) :: st) := by
  obtain ⟨p, l, e, R, s, m, args, below, meth, c, Q, D, cy, A, k0, n0⟩ := E
  obtain ⟨hx, hb, hml, hown, hts, hA, hO, hfr, hlo, hmc, hms⟩ := X
  intro H locs ls hK hP hD hS hl
  refine va_newa hx hb (hts _ harr) hty hK hP hD hS hA (a0 := zrs N) hz hz0 hz1 hbytes (Nat.le_trans hk hmc) (Nat.le_trans hn hms) hdg (fun q cA H1 hK1 hP1 hD1 hS1 => ?_)
  exact kk q cA H1 locs ls hK1 hP1 hD1 hS1 hl
theorem c_mna (X : CC E cc nL own Ts fr lo mc ms) {idx : Nat} {a b : Int} {N K t0 : Nat} {cI : ClassId} (hclink : Cond.classLink own idx "[[I" ∈ Ts) (harr : Cond.arrayClass .int ∈ Ts) (ht : tys[t0]? = some (cI, .int)) (ha0 : ¬ iI a < 0) (hb0 : ¬ iI b < 0) (ha1 : (iI a).toNatClampNeg = N) (hb1 : (iI b).toNatClampNeg = K) (hN : N ≤ 1000 ∧ K ≤ 1000) (hk : k + (1 + N) ≤ mc) (hn : n + (N + N * K) ≤ ms) (hdg : decode cc pc = .ok (.multianewarray idx 2, 4)) (kk : ∀ (q : Nat) (r : Nat → Nat) (cA : ClassId), WC E nL (tys ++ [(cA, .array .int)]) (ws ++ ((q, .inl (cA, rfs N r)) :: (List.range N).map (fun i => (r i, .inl (cI, zrs K))))) (k + 1 + N) (n + N + N * K) (pc + 4) (lv) (.ref q :: st)) : WC E nL tys (ws) (k) (n) (pc) (lv) (.int (iI b) :: .int (iI a) :: st) := by
  obtain ⟨p, l, e, R, s, m, args, below, meth, c, Q, D, cy, A, k0, n0⟩ := E
  obtain ⟨hx, hb, hml, hown, hts, hA, hO, hfr, hlo, hmc, hms⟩ := X
  intro H locs ls hK hP hD hS hl
  have hnm : s.vm.findClass (FieldType.array .int).toString = some cI := (hK.2 t0 _ ht).2
  refine va_mna (X := ws) (L := []) (f := fun _ => .inl (cI, zrs K)) (ty := .int) (index := idx) (own := own) hx hb hown (by rw [show "[" ++ (FieldType.array .int).toString = "[[I" by decide +kernel]; exact hts _ hclink) hO.1 (hts _ harr) hnm hK (by rw [show ws ++ va_pl [] _ = ws from List.append_nil ws]; exact hP) (by rw [show ws ++ va_pl [] _ = ws from List.append_nil ws]; exact hD) hS hA ha0 hb0 ha1 hb1 (by omega) (by show K * 4 ≤ _; omega) (by omega) rfl rfl (Nat.le_trans hk hmc) (Nat.le_trans hn hms) (z := zrs K) (fun c9 => arrV_new c9 K (.int 0)) hdg (fun q r cA H1 hi hne hK1 hP1 hD1 hS1 => ?_)
  have e : (ws ++ [(q, .inl (cA, N, .inr (.inr (.inr (.inr (fun i => if i < N then some (r i) else none))))))]) ++ va_pl ([] ++ (List.range N).map r) (vr_up (fun _ => .inl (cI, zrs K)) ((List.range N).map r) (.inl (cI, zrs K))) = ws ++ ((q, .inl (cA, rfs N r)) :: (List.range N).map (fun i => (r i, .inl (cI, zrs K)))) := by
    rw [List.append_assoc, List.nil_append]
    unfold va_pl
    rw [List.map_map]
    congr 1
    show _ :: _ = _
    congr 1
    apply List.map_congr_left
    intro i hi
    show (r i, vr_up _ _ _ (r i)) = _
    unfold vr_up
    split <;> rfl
  rw [e] at hP1 hD1
  exact kk q r cA H1 locs ls hK1 hP1 hD1 hS1 hl
theorem c_newq (X : CC E cc nL own Ts fr lo mc ms) {idx : Nat} {z : Int} {N : Nat} (hclink : Cond.classLink own idx RX4 ∈ Ts) (hz0 : ¬ iI z < 0) (hz1 : (iI z).toNatClampNeg = N) (hN : N ≤ 1000) (hk : k + 1 ≤ mc) (hn : n + N ≤ ms) (hdg : decode cc pc = .ok (.anewarray idx, 3)) (kk : ∀ (q : Nat) (cA : ClassId), WC E nL (tys ++ [(cA, .object RX4)]) (ws ++ [(q, .inl (cA, N, .inr (.inr (.inr (.inr (fun _ => none))))))]) (k + 1) (n + N) (pc + 3) (lv) (.ref q :: st)) : WC E nL tys (ws) (k) (n) (pc) (lv) (.int (iI z) :: st) := by
  obtain ⟨p, l, e, R, s, m, args, below, meth, c, Q, D, cy, A, k0, n0⟩ := E
  obtain ⟨hx, hb, hml, hown, hts, hA, hO, hfr, hlo, hmc, hms⟩ := X
  intro H locs ls hK hP hD hS hl
  refine va_newq hx hb hown (hts _ hclink) hO.2 hK hP hD hS hA hz0 hz1 (by omega) (Nat.le_trans hk hmc) (Nat.le_trans hn hms) hdg (fun q cA H1 hK1 hP1 hD1 hS1 => ?_)
  exact kk q cA H1 locs ls hK1 hP1 hD1 hS1 hl
theorem c_putF (X : CC E cc nL own Ts fr lo mc ms) {C : String} {T : u_T} {N ci idx j q0 a : Nat} {fs : List Value} {ws2 : va_W} {ref : String} {ty0 : Nat → FieldType} {ty : FieldType} {v : Value} (he : ws[q0]? = some (a, .inr (ci, fs))) (hcl : vwCl[ci]? = some (C, T, N)) (hin : ∀ w ∈ u_ws C T N, w ∈ Ts) (hty : ∀ k, k < N → parseFieldDescriptor (T k).2.2.1 = some (ty0 k)) (hnm : ∀ a, a < N → ∀ b, b < N → a ≠ b → (T a).2.1 ≠ (T b).2.1) (hk : j < N) (href : (T j).1 = ref) (hlink : Cond.fieldLink own idx ref (T j).2.1 (T j).2.2.1 ∈ Ts) (hfin : (T j).2.2.2 = true) (hE : EI E) (hdecl : (T j).1 = own) (hd : parseFieldDescriptor (T j).2.2.1 = some ty) (hnv : narrow ty v = v) (hfit : fits ty v = true) (hl0 : j < fs.length) (hset : ws.set q0 (a, .inr (ci, fs.set j v)) = ws2) (hdg : decode cc pc = .ok (.putfield idx, 3)) (kk : WC E nL tys (ws2) (k) (n) (pc + 3) (lv) (st)) : WC E nL tys (ws) (k) (n) (pc) (lv) (v :: .ref a :: st) := by
  obtain ⟨p, l, e, R, s, m, args, below, meth, c, Q, D, cy, A, k0, n0⟩ := E
  obtain ⟨hx, hb, hml, hown, hts, hA, hO, hfr, hlo, hmc, hms⟩ := X
  intro H locs ls hK hP hD hS hl
  subst href
  subst hset
  refine va_putF hx hb hts hin ty0 hty hnm hown hK hP hD hS q0 he hcl j hk (hts _ hlink) (fun _ h9 => h9) hfin hE hdecl hd hnv hfit hl0 hdg (fun H1 locs1 hP1 hD1 hS1 => ?_)
  exact kk H1 locs1 ls hK hP1 hD1 hS1 hl
theorem c_put (X : CC E cc nL own Ts fr lo mc ms) {C : String} {T : u_T} {N ci idx j q0 a : Nat} {fs : List Value} {ws2 : va_W} {ref : String} {ty0 : Nat → FieldType} {ty : FieldType} {v : Value} (he : ws[q0]? = some (a, .inr (ci, fs))) (hcl : vwCl[ci]? = some (C, T, N)) (hin : ∀ w ∈ u_ws C T N, w ∈ Ts) (hty : ∀ k, k < N → parseFieldDescriptor (T k).2.2.1 = some (ty0 k)) (hnm : ∀ a, a < N → ∀ b, b < N → a ≠ b → (T a).2.1 ≠ (T b).2.1) (hk : j < N) (href : (T j).1 = ref) (hlink : Cond.fieldLink own idx ref (T j).2.1 (T j).2.2.1 ∈ Ts) (hfin : (T j).2.2.2 = false) (hd : parseFieldDescriptor (T j).2.2.1 = some ty) (hnv : narrow ty v = v) (hfit : fits ty v = true) (hl0 : j < fs.length) (hset : ws.set q0 (a, .inr (ci, fs.set j v)) = ws2) (hdg : decode cc pc = .ok (.putfield idx, 3)) (kk : WC E nL tys (ws2) (k) (n) (pc + 3) (lv) (st)) : WC E nL tys (ws) (k) (n) (pc) (lv) (v :: .ref a :: st) := by
  obtain ⟨p, l, e, R, s, m, args, below, meth, c, Q, D, cy, A, k0, n0⟩ := E
  obtain ⟨hx, hb, hml, hown, hts, hA, hO, hfr, hlo, hmc, hms⟩ := X
  intro H locs ls hK hP hD hS hl
  subst href
  subst hset
  refine va_put hx hb hts hin ty0 hty hnm hown hK hP hD hS q0 he hcl j hk (hts _ hlink) (fun _ h9 => h9) hfin hd hnv hfit hl0 hdg (fun H1 locs1 hP1 hD1 hS1 => ?_)
  exact kk H1 locs1 ls hK hP1 hD1 hS1 hl
theorem c_get (X : CC E cc nL own Ts fr lo mc ms) {C : String} {T : u_T} {N ci idx j q0 a : Nat} {fs : List Value} {ref : String} {v : Value} (he : ws[q0]? = some (a, .inr (ci, fs))) (hcl : vwCl[ci]? = some (C, T, N)) (hin : ∀ w ∈ u_ws C T N, w ∈ Ts) (hk : j < N) (href : (T j).1 = ref) (hlink : Cond.fieldLink own idx ref (T j).2.1 (T j).2.2.1 ∈ Ts) (hv : fs[j]? = some v) (hdg : decode cc pc = .ok (.getfield idx, 3)) (kk : WC E nL tys (ws) (k) (n) (pc + 3) (lv) (v :: st)) : WC E nL tys (ws) (k) (n) (pc) (lv) (.ref a :: st) := by
  obtain ⟨p, l, e, R, s, m, args, below, meth, c, Q, D, cy, A, k0, n0⟩ := E
  obtain ⟨hx, hb, hml, hown, hts, hA, hO, hfr, hlo, hmc, hms⟩ := X
  intro H locs ls hK hP hD hS hl
  subst href
  exact va_get hx hb hts hin hown hK hP q0 he hcl j hk (hts _ hlink) (fun _ h9 => h9) hv hdg (kk H locs ls hK hP hD hS hl)
theorem c_astq (X : CC E cc nL own Ts fr lo mc ms) {q0 t0 qk a N v : Nat} {i : Int} {vs : List Value} {cA : ClassId} {f : Nat → Option Nat} {ws2 : va_W} (ha : ws[q0]? = some (a, .inl (cA, N, .inr (.inr (.inr (.inr f)))))) (ht : tys[t0]? = some (cA, .object RX4)) (hv : ws[qk]? = some (v, .inr (4, vs))) (hi : vp_in (iI i) N) (hset : ws.set q0 (a, .inl (cA, N, .inr (.inr (.inr (.inr (va_up f (iI i).toNatClampNeg (some v))))))) = ws2) (hdg : decode cc pc = .ok (.aastore, 1)) (kk : WC E nL tys (ws2) (k) (n) (pc + 1) (lv) (st)) : WC E nL tys (ws) (k) (n) (pc) (lv) (.ref v :: .int (iI i) :: .ref a :: st) := by
  obtain ⟨p, l, e, R, s, m, args, below, meth, c, Q, D, cy, A, k0, n0⟩ := E
  obtain ⟨hx, hb, hml, hown, hts, hA, hO, hfr, hlo, hmc, hms⟩ := X
  intro H locs ls hK hP hD hS hl
  subst hset
  refine va_astq hx hb hK hP hD hS q0 t0 qk 4 (r := (RX4, TX4, 4)) ha ht hv rfl hi hdg (fun H1 locs1 hP1 hD1 hS1 => ?_)
  exact kk H1 locs1 ls hK hP1 hD1 hS1 hl
end MAKE
/-! A MAKER'S CONTRACT -/
def MSt (D : va_G) (ci : Nat) (fs : List Value) (h0 sz : Nat) (U : State) : Prop := U.heap.size = sz ∧ va_P D vwCl [(h0, .inr (ci, fs))] U.heap ∧ va_K D vwCl [] U ∧ AOs U
def MBt (D : va_G) (w0 : va_W) (sz : Nat) (u : va_W × List (ClassId × FieldType)) (t : State) : Prop := va_P D vwCl u.1 t.heap ∧ va_K D vwCl u.2 t ∧ va_D (va_A w0 sz) u.1
def MIE (E : EV) (y : MethodName) (ws : List Cond) (fr lo mc ms ci : Nat) (fs : List Value) (As : List Value) (h0 : Nat) (post : va_W → List (ClassId × FieldType) → Prop) : Prop := match E with
  | (p, l, e, R, s, m, args, below, meth, c, Q, D, cy, A, k0, n0) => ∀ sz : Nat, Met l y ws { frames := fr, cells := mc, slots := ms, locals := lo } (va_Pc (.ref h0 :: As) (MSt D ci fs h0 sz)) (va_Qv (fun u => post u.1 u.2) (MBt D [(h0, .inr (ci, fs))] sz) (va_A [(h0, .inr (ci, fs))] sz)) mc ms (va_A [(h0, .inr (ci, fs))] sz)
def RtC (E : EV) (mc ms ci : Nat) (fs : List Value) (h0 : Nat) (post : va_W → List (ClassId × FieldType) → Prop) : Prop := match E with
  | (p, l, e, R, s, m, args, below, meth, c, Q, D, cy, A, k0, n0) => meth.sig.returnType = none ∧ meth.locks = false ∧ A = va_A [(h0, .inr (ci, fs))] s.heap.size ∧ Q = MQ below (va_Qv (fun u : va_W × List (ClassId × FieldType) => post u.1 u.2) (MBt D [(h0, .inr (ci, fs))] s.heap.size) A) args s mc ms A
theorem MIE.of {E0 : EV} {y : MethodName} {ws ws' : List Cond} {fr lo mc ms ci : Nat} {fs As : List Value} {h0 : Nat} {post : va_W → List (ClassId × FieldType) → Prop} {cc : ByteArray} {maxL : Nat} {own : String} (lv0 : List (Option Value)) (hy : plainName y.cls = true) (hy1 : y.name = "<init>") (hw : ws = Cond.code y cc maxL none :: ws') (hown : y.cls = own) (hlen : (Value.ref h0 :: As).length ≤ maxL) (hcat0 : (Value.ref h0 :: As).all (fun v => v.category == 1) = true) (hlv0 : (Value.ref h0 :: As).map some ++ List.replicate (maxL - (Value.ref h0 :: As).length) none = lv0) (body : ∀ E : EV, E.2.1 = E0.2.1 → CC E cc maxL own ws fr lo mc ms → EI E → RtC E mc ms ci fs h0 post → WC E maxL [] [(h0, .inr (ci, fs))] 0 0 0 lv0 []) : MIE E0 y ws fr lo mc ms ci fs As h0 post := by
  obtain ⟨p0, l, e0, R0, s0, m0, args0, below0, meth0, c0, Q0, D, cy, A0, k0, n0⟩ := E0
  intro sz
  generalize havs : (Value.ref h0 :: As) = avs at hlen hcat0 hlv0 ⊢
  have hcat : ∀ v ∈ avs, v.category = 1 := fun v hv => by
    have := List.all_eq_true.mp hcat0 v hv
    simpa using this
  have hlv : ∀ (i : Nat) (v : Value), lv0[i]? = some (some v) → avs[i]? = some v := by
    intro i v h
    rw [← hlv0] at h
    by_cases hi : i < avs.length
    · rw [List.getElem?_append_left (by simpa using hi), List.getElem?_map] at h
      cases h9 : avs[i]? with
      | none => rw [h9] at h; cases h
      | some x => rw [h9] at h; cases h; rfl
    · rw [List.getElem?_append_right (by simpa using hi), List.getElem?_replicate] at h
      split at h <;> cases h
  refine Met.ofW (cc := cc) (maxL := maxL) (ret := none) hy hw ?_
  intro p e s m args below meth c s₁ B hml hv
  obtain ⟨rfl, hsz, hP, hK, hO⟩ := hv
  have hts := atoms_spec (ws := ws) B.pre
  have hown1 : s.vm.findClass own = some m.cls := by rw [← hown]; exact findClass_of_methodNamed B.named
  have hin : meth.name = "<init>" := (name_of_methodNamed B.named B.method).1.trans hy1
  have hsl : ∀ vs : List Value, (∀ v ∈ vs, v.category = 1) → (lg_sl vs).length = vs.length := by
    intro vs
    induction vs with
    | nil => intro _; rfl
    | cons a t ih =>
      intro h
      have h1 := ih (fun v hv => h v (List.mem_cons_of_mem _ hv))
      have h2 := h a List.mem_cons_self
      cases a <;> simp_all [lg_sl, Value.category]
  have hargs : ∀ (vs : List Value) (j : Nat), (∀ v ∈ vs, v.category = 1) → ∀ (i : Nat) (v : Value), vs[i]? = some v → (j + i, v) ∈ lv_args j vs := by
    intro vs
    induction vs with
    | nil => intro j _ i v h; simp at h
    | cons a t ih =>
      intro j h i v hi
      have h2 := h a List.mem_cons_self
      cases i with
      | zero =>
        simp at hi
        subst hi
        simp [lv_args]
      | succ i =>
        have h3 := ih (j + 1) (fun v hv => h v (List.mem_cons_of_mem _ hv)) i v (by simpa using hi)
        have e9 : j + (i + 1) = j + 1 + i := by omega
        rw [e9]
        unfold lv_args
        rw [h2]
        exact List.mem_cons_of_mem _ h3
  have hl := lv_entry avs (n := maxL) (by rw [hsl avs hcat]; exact hlen)
  rw [lg_entry_eq]
  subst hsz
  have hD0 : va_D (va_A [(h0, .inr (ci, fs))] s.heap.size) [((h0, .inr (ci, fs)) : Nat × va_E)] := by
    refine ⟨fun i j x y hx hy _ => ?_, fun k x hx => va_A.in hx⟩
    have h1 := (List.getElem?_eq_some_iff.mp hx).1
    have h2 := (List.getElem?_eq_some_iff.mp hy).1
    simp at h1 h2
    omega
  have hb := body (p, l, e, (headSpec ws { frames := fr, cells := mc, slots := ms, locals := lo }).room, s, m, avs.toArray, below, meth, c, MQ below (va_Qv (fun u : va_W × List (ClassId × FieldType) => post u.1 u.2) (MBt D [(h0, .inr (ci, fs))] s.heap.size) (va_A [(h0, .inr (ci, fs))] s.heap.size)) avs.toArray s mc ms (va_A [(h0, .inr (ci, fs))] s.heap.size), D, cy, va_A [(h0, .inr (ci, fs))] s.heap.size, 0, 0) rfl ⟨B.exec, B.bytes, hml, hown1, hts, fun q h => Or.inr h, hO, Nat.le_refl _, Nat.le_refl _, Nat.le_refl _, Nat.le_refl _⟩ hin ⟨B.returns, B.notSynchronized, rfl, rfl⟩
  exact hb s.heap [] _ hK hP hD0 va_S.rf ⟨hl.1, hl.2.1, fun i v hv => hl.2.2 (i, v) (by
    have := hargs avs 0 hcat i v (hlv i v hv)
    rwa [Nat.zero_add] at this)⟩
section MAKE2
variable {E : EV} {cc : ByteArray} {nL : Nat} {own : String} {Ts : List Cond} {fr lo mc ms : Nat} {tys : List (ClassId × FieldType)} {ws : va_W} {k n pc : Nat} {lv : List (Option Value)} {st : List Value}
theorem c_ret (X : CC E cc nL own Ts fr lo mc ms) {ci h0 : Nat} {fs : List Value} {post : va_W → List (ClassId × FieldType) → Prop} (hr : RtC E mc ms ci fs h0 post) (hp : post ws tys) (hk : k ≤ mc) (hn : n ≤ ms) (hdg : decode cc pc = .ok (.return_, 1)) : WC E nL tys ws k n pc lv [] := by
  obtain ⟨p, l, e, R, s, m, args, below, meth, c, Q, D, cy, A, k0, n0⟩ := E
  obtain ⟨hx, hb, hml, hown, hts, hA, hO, hfr, hlo, hmc, hms⟩ := X
  intro H locs ls hK hP hD hS hl
  obtain ⟨h1, h2, h3, h4⟩ := hr
  subst h4
  refine W.widen hk hn ?_
  exact W.vret hx hb h1 (fun t ht hW => ⟨⟨(ws, tys), rfl, hp, by rw [ht]; exact hP, va_K.moved hW.alike hK, by rw [← h3]; exact hD⟩, hS.F ht⟩) hS.2.2 hdg h2
theorem c_init (X : CC E cc nL own Ts fr lo mc ms) {y : MethodName} {wsy ws' : List Cond} {bytes : ByteArray} {maxL idx fr' lo' mc' ms' ci q na : Nat} {fs As : List Value} {post : va_W → List (ClassId × FieldType) → Prop} (hM : MIE E y wsy fr' lo' mc' ms' ci fs As q post) (hG : GoodIn Ts wsy) (hw : wsy = Cond.code y bytes maxL none :: ws') (hini : Cond.initialized y.cls ∈ Ts) (hlink : Cond.methodLink own idx y ∈ Ts) (hinst : Cond.instanceMethod y ∈ Ts) (hy1 : y.name = "<init>") (hd : y.cls ≠ "java/lang/invoke/MethodHandle" ∧ y.cls ≠ "java/lang/invoke/VarHandle" ∧ (parseMethodDescriptor y.desc).map (fun d => d.parameters.length) = some na) (hna : As.length = na) (hR : fr' + 1 ≤ fr ∧ 8 + (maxL + 11) + lo' ≤ lo) (hcat : (st.map fun v => v.category).sum ≤ 8) (hk : k + mc' ≤ mc) (hn : n + ms' ≤ ms) (hdg : decode cc pc = .ok (.invokespecial idx, 3))
    (kk : ∀ (W1 : va_W) (T1 : List (ClassId × FieldType)), post W1 T1 → WC E nL (tys ++ T1) (ws ++ W1) (k + mc') (n + ms') (pc + 3) lv st) : WC E nL tys (ws ++ [(q, .inr (ci, fs))]) k n pc lv (As.reverse ++ .ref q :: st) := by
  obtain ⟨p, l, e, R, s, m, args, below, meth, c, Q, D, cy, A, k0, n0⟩ := E
  obtain ⟨hx, hb, hml, hown, hts, hA, hO, hfr, hlo, hmc, hms⟩ := X
  intro H locs ls hK hP hD hS hl
  have hat : (ws ++ [((q, .inr (ci, fs)) : Nat × va_E)])[ws.length]? = some (q, .inr (ci, fs)) := by simp
  have hPc : va_P D vwCl [((q, .inr (ci, fs)) : Nat × va_E)] H := fun i x hi => by
    have h0 : i < 1 := (List.getElem?_eq_some_iff.mp hi).1
    rw [show i = 0 by omega] at hi
    cases hi
    exact hP _ _ hat
  have hFc : ∀ a, va_A [((q, .inr (ci, fs)) : Nat × va_E)] H.size a → A a := va_free hD hS hA [ws.length] (by simp)
  have hin : ∀ (i : Nat) (x : Nat × va_E), ws[i]? = some x → (ws ++ [((q, .inr (ci, fs)) : Nat × va_E)])[i]? = some x := fun i x hi => by
    rw [List.getElem?_append_left (List.getElem?_eq_some_iff.mp hi).1]; exact hi
  have hap : ∀ (i : Nat) (x : Nat × va_E), ws[i]? = some x → x.1 < H.size ∧ ¬ va_A [((q, .inr (ci, fs)) : Nat × va_E)] H.size x.1 := fun i x hi => by
    have hlt := (hP i x (hin i x hi)).lt
    refine ⟨hlt, fun h => ?_⟩
    rcases h with ⟨j, e9, h9⟩ | h9
    · have h0 : j < 1 := (List.getElem?_eq_some_iff.mp h9).1
      rw [show j = 0 by omega] at h9
      have h8 : (q, Sum.inr (ci, fs)) = (x.1, e9) := Option.some.inj h9
      have h7 := hD.1 i ws.length x _ (hin i x hi) hat (Prod.ext_iff.mp h8).1.symm
      have := (List.getElem?_eq_some_iff.mp hi).1
      omega
    · omega
  refine va_callv (va_runI (As := As) (rest := st) ⟨hx, hb, hml, hown, hts⟩ (hM H.size) (cwI na hts hG hw rfl rfl (hts _ hini) (hts _ hlink) (hts _ hinst) hy1 hd ⟨Nat.le_trans hR.1 hfr, Nat.le_trans hR.2 hlo⟩) ⟨fun a U g mk h => ⟨h.1, h.2.1, h.2.2.1, va_K.moved (u := U) (U := U.calling g mk a) (Vm.Alike.refl U.vm) h.2.2.2.1, AOs.moved (u := U) (U := U.calling g mk a) (Vm.Alike.refl U.vm) h.2.2.2.2⟩, fun U hU hW => ⟨rfl, by rw [hU], by rw [hU]; exact hPc, va_K.moved hW.alike ⟨hK.1, fun k9 x9 h9 => by simp at h9⟩, AOs.moved hW.alike hO⟩⟩ rfl hna hl.1 rfl (lv_room hcat) hdg ⟨Nat.le_trans hk hmc, Nat.le_trans hn hms⟩) hS (fun a _ h => hFc a h) hFc (fun u t H1 locs1 ht hvm hp hB hz1 hk1 hS1 => ?_)
  obtain ⟨hP1, hK1, hD1⟩ := hB
  rw [ht] at hP1
  have hK2 := hK.app (va_K.moved hvm.symm hK1)
  refine kk u.1 u.2 hp H1 locs1 ls hK2 (va_P.app (fun i x hi => (hP i x (hin i x hi)).kept (hk1 x.1 (hap i x hi).1 (hap i x hi).2)) hP1) (va_D.app ⟨fun i j x y hi hj => hD.1 i j x y (hin i x hi) (hin j y hj), fun i x hi => hD.2 i x (hin i x hi)⟩ (hD1.weaken (fun i x _ h => hFc x.1 h)) (fun i j x y hi hj hxy => (hap i x hi).2 (by rw [hxy]; exact hD1.2 j y hj))) hS1 hl
end MAKE2
