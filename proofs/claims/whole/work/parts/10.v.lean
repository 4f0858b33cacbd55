/-! The layer zv: the machine at a place, with its locals, its stack and a world of cells; all rows of the methods are over it -/
abbrev zKx : Type := Program × Launch × Env × Room × State × MethodId × Array Value × List Frame × Method × Code × va_G × (Nat → Prop) × Heap × Nat × Nat × (State → Prop)
abbrev zTy : Type := ClassId × ClassId × ClassId
def zv_isNest : Cond → Bool
  | .fieldLinkNest .. => true
  | .methodLinkNest .. => true
  | _ => false
theorem zv_nest_all : zv_nest.all zv_isNest = true := rfl
theorem zv_nest_warm {w : Cond} (h : zv_isNest w = true) {s U : State} (hW : s.WarmedH U.vm) (hZ : va_Nw w s) : va_Nw w U := by
  cases w <;> first | exact va_Nw.warmF hW hZ | exact va_Nw.warmM hW hZ | (simp [zv_isNest] at h)
theorem zv_nest_same {w : Cond} (h : zv_isNest w = true) {u U : State} (e : u.vm = U.vm) (hZ : va_Nw w u) : va_Nw w U := by
  cases w <;> first | exact va_Nw.same rfl e hZ | (simp [zv_isNest] at h)
def zv_nst (U : State) : Prop := ∀ w ∈ zv_nest, va_Nw w U
theorem zv_nst.warm {s U : State} (hW : s.WarmedH U.vm) (h : zv_nst s) : zv_nst U := fun w hw => zv_nest_warm (List.all_eq_true.mp zv_nest_all w hw) hW (h w hw)
theorem zv_nst.same {s U : State} (e : s.vm = U.vm) (h : zv_nst s) : zv_nst U := fun w hw => zv_nest_same (List.all_eq_true.mp zv_nest_all w hw) e (h w hw)
def zv_tys (ty : zTy) : List (ClassId × FieldType) := [(ty.1, .int), (ty.2.1, .boolean), (ty.2.2, .object "VeinCourt$Claim")]
def zv_K (D : va_G) (ty : zTy) (U : State) : Prop := va_K D vwCl (zv_tys ty) U ∧ zv_nst U
theorem zv_K.warm {D : va_G} {ty : zTy} {s U : State} (hW : s.WarmedH U.vm) (h : zv_K D ty s) : zv_K D ty U := ⟨va_K.moved hW.alike h.1, h.2.warm hW⟩
theorem zv_K.call {D : va_G} {ty : zTy} {U : State} {g : JFrame} {mk : MethodId} {a : Array Value} (h : zv_K D ty U) : zv_K D ty (U.calling g mk a) := ⟨va_K.moved (u := U) (U := U.calling g mk a) (Vm.Alike.refl U.vm) h.1, zv_nst.same (s := U) (U := U.calling g mk a) rfl h.2⟩
/-- the locals by their places, all of one word -/
def zv_l (ls : Array Slot) (lv : List (Option Value)) : Prop := ls.size = lv.length ∧ lv_wf ls ∧ ∀ (i : Nat) (v : Value), lv[i]? = some (some v) → v.category = 1 ∧ ls[i]? = some (.val v)
theorem zv_l.at {ls : Array Slot} {lv : List (Option Value)} (h : zv_l ls lv) {i : Nat} {v : Value} (hi : lv[i]? = some (some v)) : ls[i]? = some (.val v) := (h.2.2 i v hi).2
theorem zv_l.store {ls : Array Slot} {lv : List (Option Value)} (h : zv_l ls lv) {i : Nat} {v : Value} (hi : i < lv.length) (hc : v.category = 1) : ∃ l : List (Nat × Value), lv_has ls lv.length l ∧ ∀ ls' : Array Slot, lv_has ls' lv.length ((i, v) :: l.filter (fun q => !(q.1 == i) && !(q.1 + 1 == i && q.2.category == 2))) → zv_l ls' (lv.set i (some v)) := by
  refine ⟨(List.range lv.length).filterMap (fun j => (lv[j]?.join).map (fun x => (j, x))), ⟨h.1, h.2.1, fun q hq => ?_⟩, fun ls' h' => ⟨by rw [List.length_set]; exact h'.1, h'.2.1, fun j x hj => ?_⟩⟩
  · obtain ⟨j, -, e⟩ := List.mem_filterMap.mp hq
    cases hx : lv[j]? with
    | none => rw [hx] at e; simp at e
    | some o =>
      cases o with
      | none => rw [hx] at e; simp at e
      | some x =>
        rw [hx] at e
        simp at e
        subst e
        exact (h.2.2 j x hx).2
  · by_cases hji : j = i
    · subst hji
      rw [List.getElem?_set_self hi] at hj
      cases hj
      exact ⟨hc, h'.2.2 (j, v) List.mem_cons_self⟩
    · rw [List.getElem?_set_ne (Ne.symm hji)] at hj
      obtain ⟨c1, -⟩ := h.2.2 j x hj
      refine ⟨c1, h'.2.2 (j, x) (List.mem_cons_of_mem _ (List.mem_filter.mpr ⟨List.mem_filterMap.mpr ⟨j, List.mem_range.mpr ?_, ?_⟩, ?_⟩))⟩
      · exact (List.getElem?_eq_some_iff.mp hj).1
      · rw [hj]; rfl
      · simp [hji, c1]
def zv_one (av : List Value) : Prop := ∀ v ∈ av, v.category = 1
theorem zv_sl : ∀ (av : List Value), zv_one av → lg_sl av = av.map Slot.val
  | [], _ => rfl
  | v :: av, h => by
    have ih := zv_sl av (fun x hx => h x (List.mem_cons_of_mem _ hx))
    have hv := h v List.mem_cons_self
    unfold lg_sl at ih ⊢
    rw [List.flatMap_cons, ih, if_neg (by omega)]
    rfl
theorem zv_args : ∀ (av : List Value) (n i : Nat) (v : Value), zv_one av → av[i]? = some v → (n + i, v) ∈ lv_args n av
  | [], n, i, v, _, h => by simp at h
  | x :: av, n, 0, v, h1, h => by
    simp at h
    subst h
    exact List.mem_cons_self
  | x :: av, n, i + 1, v, h1, h => by
    have hv := h1 x List.mem_cons_self
    simp at h
    have ih := zv_args av (n + 1) i v (fun y hy => h1 y (List.mem_cons_of_mem _ hy)) h
    unfold lv_args
    rw [if_neg (by omega), show n + (i + 1) = n + 1 + i by omega]
    exact List.mem_cons_of_mem _ ih
theorem zv_entry {av : List Value} {n : Nat} (h1 : zv_one av) (hn : av.length ≤ n) : zv_l ((lg_sl av ++ List.replicate (n - (lg_sl av).length) Slot.unset).toArray) (av.map some ++ List.replicate (n - av.length) none) := by
  have hl : (lg_sl av).length = av.length := by rw [zv_sl av h1, List.length_map]
  obtain ⟨e1, e2, e3⟩ := lv_entry av (n := n) (by omega)
  refine ⟨by rw [e1]; simp; omega, e2, fun i v hi => ?_⟩
  by_cases hi2 : i < av.length
  · rw [List.getElem?_append_left (by rw [List.length_map]; exact hi2), List.getElem?_map] at hi
    cases hx : av[i]? with
    | none => rw [hx] at hi; cases hi
    | some x =>
      rw [hx] at hi
      cases hi
      have := zv_args av 0 i v h1 hx
      rw [Nat.zero_add] at this
      exact ⟨h1 v (List.mem_of_getElem? hx), e3 (i, v) this⟩
  · rw [List.getElem?_append_right (by rw [List.length_map]; omega), List.getElem?_replicate] at hi
    split at hi <;> cases hi
/-- the machine at pc, with these locals, this stack, this world -/
def zv (k : zKx) (pc : Nat) (lv : List (Option Value)) (st : List Value) (ws : va_W) : Prop := match k with
  | (p, l, e, R, s, m, args, below, meth, c, D, A, H0, cells, slots, Q) => ∀ (H : Heap) (locs : List Loc) (ls : Array Slot), va_P D vwCl ws H → va_D A ws → va_S A H0 H locs → zv_l ls lv → W p l e R s m args below meth c H locs cells slots Q (F0 m pc ls st)
/-- what holds in a method's body -/
def zv_ok (k : zKx) (l0 : Launch) (D0 : va_G) (R0 : Room) (cc : ByteArray) (nL : Nat) (own : String) (ty : zTy) : Prop := match k with
  | (p, l, _, R, s, m, args, _, meth, c, D, A, H0, cells, slots, _) => l = l0 ∧ D = D0 ∧ R = R0 ∧ p.tables.exec = Jvm.exec ∧ c.code = cc ∧ c.maxLocals = nL ∧ s.vm.findClass own = some m.cls ∧ (∀ w ∈ zT, w.before args s = true) ∧ zv_K D ty s ∧ (∀ q, H0.size ≤ q → A q) ∧ meth.locks = false ∧ cells ≤ R.cells ∧ slots ≤ R.slots
def zv_qc (D : va_G) (post : Option Value → va_W → Prop) (A : Nat → Prop) : Array Value → State → Outcome → State → Prop := fun _ st oc t => (∃ (v : Option Value) (w' : va_W), oc = .returned v ∧ post v w' ∧ va_P D vwCl w' t.heap ∧ va_D A w') ∧ va_F A st t
def zv_pc (D : va_G) (ty : zTy) (av : List Value) (w : va_W) (sz : Nat) : Array Value → State → Prop := va_Pc av (fun U => U.heap.size = sz ∧ va_P D vwCl w U.heap ∧ zv_K D ty U ∧ va_D (fun _ => True) w)
/-- a contract: from any state that holds the world w, the method returns v with the world w', and post v w' -/
def zv_ct (l : Launch) (D : va_G) (ty : zTy) (y : MethodName) (cc : ByteArray) (maxL : Nat) (ret : Option FieldType) (rm : Room) (av : List Value) (w : va_W) (post : Option Value → va_W → Prop) : Prop :=
  ∀ sz : Nat, Met l y (Cond.code y cc maxL ret :: zT) rm (zv_pc D ty av w sz) (zv_qc D post (va_A w sz)) 0 0 (va_A w sz)
def zv_rt (k : zKx) (ret : Option FieldType) (post : Option Value → va_W → Prop) : Prop := match k with
  | (_, _, _, _, s, _, args, below, meth, _, D, A, H0, cells, slots, Q) => meth.sig.returnType = ret ∧ H0 = s.heap ∧ Q = MQ below (zv_qc D post A) args s cells slots A
theorem zv_blind {D : va_G} {ty : zTy} {av : List Value} {w : va_W} {sz : Nat} : FrameBlind (zv_pc D ty av w sz) := fun a U g mk q => by
  obtain ⟨q0, q1, qP, qK, qD⟩ := q
  exact ⟨q0, q1, qP, qK.call, qD⟩
theorem zv_open {l : Launch} {D : va_G} {ty : zTy} {y : MethodName} {cc : ByteArray} {maxL : Nat} {ret : Option FieldType} {rm : Room} {av : List Value} {w : va_W} {post : Option Value → va_W → Prop} (hy : plainName y.cls = true) (hr0 : rm.cells = 0) (hr1 : rm.slots = 0) (lv : List (Option Value)) (h1 : zv_one av) (hn : av.length ≤ maxL) (hlv : av.map some ++ List.replicate (maxL - av.length) none = lv)
    (body : ∀ k : zKx, zv_ok k l D rm cc maxL y.cls ty → zv_rt k ret post → zv k 0 lv [] w) : zv_ct l D ty y cc maxL ret rm av w post := by
  intro sz
  refine Met.ofW (cc := cc) (maxL := maxL) (ret := ret) hy rfl ?_
  intro p e s m args below meth c s₁ B hml hv
  obtain ⟨rfl, hsz, hP, hK, hD0⟩ := hv
  have hts := atoms_spec (ws := Cond.code y cc maxL ret :: zT) B.pre
  subst hsz
  rw [lg_entry_eq]
  have hD := hD0.self (sz := s.heap.size)
  refine body (p, l, e, rm, s, m, av.toArray, below, meth, c, D, va_A w s.heap.size, s.heap, 0, 0, MQ below (zv_qc D post (va_A w s.heap.size)) av.toArray s 0 0 (va_A w s.heap.size)) ⟨rfl, rfl, rfl, B.exec, B.bytes, hml, findClass_of_methodNamed B.named, fun x hx => hts x (List.mem_cons_of_mem _ hx), hK, fun q h => Or.inr h, B.notSynchronized, Nat.zero_le _, Nat.zero_le _⟩ ⟨B.returns, rfl, rfl⟩ s.heap [] _ hP hD va_S.rf ?_
  subst hlv
  exact zv_entry h1 hn
section ZV
variable {k : zKx} {l : Launch} {D : va_G} {R : Room} {cc : ByteArray} {nL : Nat} {own : String} {ty : zTy} {pc : Nat} {lv : List (Option Value)} {st : List Value} {ws : va_W}
/-- the same place, said otherwise -/
theorem zv_eq {pc2 : Nat} {lv2 : List (Option Value)} {st2 : List Value} {ws2 : va_W} (h1 : pc = pc2) (h2 : lv = lv2) (h3 : st = st2) (h4 : ws = ws2) (kk : zv k pc2 lv2 st2 ws2) : zv k pc lv st ws := by subst h1; subst h2; subst h3; subst h4; exact kk
theorem zv_ws {ws2 : va_W} (h : ws = ws2) (kk : zv k pc lv st ws2) : zv k pc lv st ws := by subst h; exact kk
theorem zv_topi {x : Int32} (y : Int32) (h : x = y) (kk : zv k pc lv (.int y :: st) ws) : zv k pc lv (.int x :: st) ws := by subst h; exact kk
theorem zv_lv (i : Nat) {v v2 : Value} (h : v = v2) {lv2 : List (Option Value)} (hl : lv2 = lv) (kk : zv k pc lv2 st ws) : zv k pc lv st ws := by subst hl; exact kk
theorem zv_iconst (K : zv_ok k l D R cc nL own ty) {n : Int} (v : Int32) (pc2 : Nat) (hd : decode cc pc = .ok (.iconst n, 1)) (hp : pc + 1 = pc2) (hv : Int32.ofInt n = v) (kk : zv k pc2 lv (.int v :: st) ws) : zv k pc lv (st) ws := by
  subst hp
  obtain ⟨p, l', e, R', s, m, args, below, meth, c, D', A, H0, cells, slots, Q⟩ := k
  obtain ⟨rfl, rfl, rfl, hx, hb, hml, hown, hts, hK, hA, hlk, hcl, hsl⟩ := K
  intro H locs ls hP hD hS hl
  exact lv_iconst hx hb hd hv (kk H locs ls hP hD hS hl)
theorem zv_bipush (K : zv_ok k l D R cc nL own ty) {n : Int} (v : Int32) (pc2 : Nat) (hd : decode cc pc = .ok (.bipush n, 2)) (hp : pc + 2 = pc2) (hv : (Int8.ofInt n).toInt32 = v) (kk : zv k pc2 lv (.int v :: st) ws) : zv k pc lv (st) ws := by
  subst hp
  obtain ⟨p, l', e, R', s, m, args, below, meth, c, D', A, H0, cells, slots, Q⟩ := k
  obtain ⟨rfl, rfl, rfl, hx, hb, hml, hown, hts, hK, hA, hlk, hcl, hsl⟩ := K
  intro H locs ls hP hD hS hl
  exact lv_bipush hx hb hd hv (kk H locs ls hP hD hS hl)
theorem zv_sipush (K : zv_ok k l D R cc nL own ty) {n : Int} (v : Int32) (pc2 : Nat) (hd : decode cc pc = .ok (.sipush n, 3)) (hp : pc + 3 = pc2) (hv : (Int16.ofInt n).toInt32 = v) (kk : zv k pc2 lv (.int v :: st) ws) : zv k pc lv (st) ws := by
  subst hp
  obtain ⟨p, l', e, R', s, m, args, below, meth, c, D', A, H0, cells, slots, Q⟩ := k
  obtain ⟨rfl, rfl, rfl, hx, hb, hml, hown, hts, hK, hA, hlk, hcl, hsl⟩ := K
  intro H locs ls hP hD hS hl
  exact lv_sipush hx hb hd hv (kk H locs ls hP hD hS hl)
theorem zv_iload_n (K : zv_ok k l D R cc nL own ty) {q : Fin 4} {x : Int32} (pc2 : Nat) (hd : decode cc pc = .ok (.iload_n q, 1)) (hp : pc + 1 = pc2) (h : lv[(q : Nat)]? = some (some (.int x))) (kk : zv k pc2 lv (.int x :: st) ws) : zv k pc lv (st) ws := by
  subst hp
  obtain ⟨p, l', e, R', s, m, args, below, meth, c, D', A, H0, cells, slots, Q⟩ := k
  obtain ⟨rfl, rfl, rfl, hx, hb, hml, hown, hts, hK, hA, hlk, hcl, hsl⟩ := K
  intro H locs ls hP hD hS hl
  exact lv_iload_n hx hb hd rfl (hl.at h) (kk H locs ls hP hD hS hl)
theorem zv_iload (K : zv_ok k l D R cc nL own ty) {i : Nat} {x : Int32} (pc2 : Nat) (hd : decode cc pc = .ok (.iload i, 2)) (hp : pc + 2 = pc2) (h : lv[i]? = some (some (.int x))) (kk : zv k pc2 lv (.int x :: st) ws) : zv k pc lv (st) ws := by
  subst hp
  obtain ⟨p, l', e, R', s, m, args, below, meth, c, D', A, H0, cells, slots, Q⟩ := k
  obtain ⟨rfl, rfl, rfl, hx, hb, hml, hown, hts, hK, hA, hlk, hcl, hsl⟩ := K
  intro H locs ls hP hD hS hl
  exact lv_iload hx hb hd (hl.at h) (kk H locs ls hP hD hS hl)
theorem zv_aload_n (K : zv_ok k l D R cc nL own ty) {q : Fin 4} {x : Nat} (pc2 : Nat) (hd : decode cc pc = .ok (.aload_n q, 1)) (hp : pc + 1 = pc2) (h : lv[(q : Nat)]? = some (some (.ref x))) (kk : zv k pc2 lv (.ref x :: st) ws) : zv k pc lv (st) ws := by
  subst hp
  obtain ⟨p, l', e, R', s, m, args, below, meth, c, D', A, H0, cells, slots, Q⟩ := k
  obtain ⟨rfl, rfl, rfl, hx, hb, hml, hown, hts, hK, hA, hlk, hcl, hsl⟩ := K
  intro H locs ls hP hD hS hl
  exact lv_aload_n hx hb hd rfl (hl.at h) (kk H locs ls hP hD hS hl)
theorem zv_aload (K : zv_ok k l D R cc nL own ty) {i : Nat} {x : Nat} (pc2 : Nat) (hd : decode cc pc = .ok (.aload i, 2)) (hp : pc + 2 = pc2) (h : lv[i]? = some (some (.ref x))) (kk : zv k pc2 lv (.ref x :: st) ws) : zv k pc lv (st) ws := by
  subst hp
  obtain ⟨p, l', e, R', s, m, args, below, meth, c, D', A, H0, cells, slots, Q⟩ := k
  obtain ⟨rfl, rfl, rfl, hx, hb, hml, hown, hts, hK, hA, hlk, hcl, hsl⟩ := K
  intro H locs ls hP hD hS hl
  exact lv_aload hx hb hd (hl.at h) (kk H locs ls hP hD hS hl)
theorem zv_aload_nN (K : zv_ok k l D R cc nL own ty) {q : Fin 4} (pc2 : Nat) (hd : decode cc pc = .ok (.aload_n q, 1)) (hp : pc + 1 = pc2) (h : lv[(q : Nat)]? = some (some .null)) (kk : zv k pc2 lv (.null :: st) ws) : zv k pc lv (st) ws := by
  subst hp
  obtain ⟨p, l', e, R', s, m, args, below, meth, c, D', A, H0, cells, slots, Q⟩ := k
  obtain ⟨rfl, rfl, rfl, hx, hb, hml, hown, hts, hK, hA, hlk, hcl, hsl⟩ := K
  intro H locs ls hP hD hS hl
  exact lv_aload_nN hx hb hd rfl (hl.at h) (kk H locs ls hP hD hS hl)
theorem zv_aloadN (K : zv_ok k l D R cc nL own ty) {i : Nat} (pc2 : Nat) (hd : decode cc pc = .ok (.aload i, 2)) (hp : pc + 2 = pc2) (h : lv[i]? = some (some .null)) (kk : zv k pc2 lv (.null :: st) ws) : zv k pc lv (st) ws := by
  subst hp
  obtain ⟨p, l', e, R', s, m, args, below, meth, c, D', A, H0, cells, slots, Q⟩ := k
  obtain ⟨rfl, rfl, rfl, hx, hb, hml, hown, hts, hK, hA, hlk, hcl, hsl⟩ := K
  intro H locs ls hP hD hS hl
  exact lv_aloadN hx hb hd (hl.at h) (kk H locs ls hP hD hS hl)
theorem zv_istore_n (K : zv_ok k l D R cc nL own ty) {q : Fin 4} {x : Int32} (lv2 : List (Option Value)) (pc2 : Nat) (hd : decode cc pc = .ok (.istore_n q, 1)) (hp : pc + 1 = pc2) (hs : lv.set (q : Nat) (some (.int x)) = lv2) (hi : (q : Nat) < lv.length) (kk : zv k pc2 lv2 st ws) : zv k pc lv (.int x :: st) ws := by
  subst hp
  obtain ⟨p, l', e, R', s, m, args, below, meth, c, D', A, H0, cells, slots, Q⟩ := k
  obtain ⟨rfl, rfl, rfl, hx, hb, hml, hown, hts, hK, hA, hlk, hcl, hsl⟩ := K
  intro H locs ls hP hD hS hl
  subst hs
  obtain ⟨ll, h1, h2⟩ := hl.store (i := (q : Nat)) (v := .int x) hi rfl
  exact lv_istore_n hx hb hd rfl h1 hi rfl (fun ls2 h3 => kk H locs ls2 hP hD hS (h2 ls2 h3))
theorem zv_astore_n (K : zv_ok k l D R cc nL own ty) {q : Fin 4} {x : Nat} (lv2 : List (Option Value)) (pc2 : Nat) (hd : decode cc pc = .ok (.astore_n q, 1)) (hp : pc + 1 = pc2) (hs : lv.set (q : Nat) (some (.ref x)) = lv2) (hi : (q : Nat) < lv.length) (kk : zv k pc2 lv2 st ws) : zv k pc lv (.ref x :: st) ws := by
  subst hp
  obtain ⟨p, l', e, R', s, m, args, below, meth, c, D', A, H0, cells, slots, Q⟩ := k
  obtain ⟨rfl, rfl, rfl, hx, hb, hml, hown, hts, hK, hA, hlk, hcl, hsl⟩ := K
  intro H locs ls hP hD hS hl
  subst hs
  obtain ⟨ll, h1, h2⟩ := hl.store (i := (q : Nat)) (v := .ref x) hi rfl
  exact lv_astore_n hx hb hd rfl h1 hi rfl (fun ls2 h3 => kk H locs ls2 hP hD hS (h2 ls2 h3))
theorem zv_astore_nN (K : zv_ok k l D R cc nL own ty) {q : Fin 4} (lv2 : List (Option Value)) (pc2 : Nat) (hd : decode cc pc = .ok (.astore_n q, 1)) (hp : pc + 1 = pc2) (hs : lv.set (q : Nat) (some (.null)) = lv2) (hi : (q : Nat) < lv.length) (kk : zv k pc2 lv2 st ws) : zv k pc lv (.null :: st) ws := by
  subst hp
  obtain ⟨p, l', e, R', s, m, args, below, meth, c, D', A, H0, cells, slots, Q⟩ := k
  obtain ⟨rfl, rfl, rfl, hx, hb, hml, hown, hts, hK, hA, hlk, hcl, hsl⟩ := K
  intro H locs ls hP hD hS hl
  subst hs
  obtain ⟨ll, h1, h2⟩ := hl.store (i := (q : Nat)) (v := .null) hi rfl
  exact lv_astore_nN hx hb hd rfl h1 hi rfl (fun ls2 h3 => kk H locs ls2 hP hD hS (h2 ls2 h3))
theorem zv_istore (K : zv_ok k l D R cc nL own ty) {i : Nat} {x : Int32} (lv2 : List (Option Value)) (pc2 : Nat) (hd : decode cc pc = .ok (.istore i, 2)) (hp : pc + 2 = pc2) (hs : lv.set i (some (.int x)) = lv2) (hi : i < lv.length) (kk : zv k pc2 lv2 st ws) : zv k pc lv (.int x :: st) ws := by
  subst hp
  obtain ⟨p, l', e, R', s, m, args, below, meth, c, D', A, H0, cells, slots, Q⟩ := k
  obtain ⟨rfl, rfl, rfl, hx, hb, hml, hown, hts, hK, hA, hlk, hcl, hsl⟩ := K
  intro H locs ls hP hD hS hl
  subst hs
  obtain ⟨ll, h1, h2⟩ := hl.store (i := i) (v := .int x) hi rfl
  exact lv_istore hx hb hd h1 hi rfl (fun ls2 h3 => kk H locs ls2 hP hD hS (h2 ls2 h3))
theorem zv_astore (K : zv_ok k l D R cc nL own ty) {i : Nat} {x : Nat} (lv2 : List (Option Value)) (pc2 : Nat) (hd : decode cc pc = .ok (.astore i, 2)) (hp : pc + 2 = pc2) (hs : lv.set i (some (.ref x)) = lv2) (hi : i < lv.length) (kk : zv k pc2 lv2 st ws) : zv k pc lv (.ref x :: st) ws := by
  subst hp
  obtain ⟨p, l', e, R', s, m, args, below, meth, c, D', A, H0, cells, slots, Q⟩ := k
  obtain ⟨rfl, rfl, rfl, hx, hb, hml, hown, hts, hK, hA, hlk, hcl, hsl⟩ := K
  intro H locs ls hP hD hS hl
  subst hs
  obtain ⟨ll, h1, h2⟩ := hl.store (i := i) (v := .ref x) hi rfl
  exact lv_astore hx hb hd h1 hi rfl (fun ls2 h3 => kk H locs ls2 hP hD hS (h2 ls2 h3))
theorem zv_astoreN (K : zv_ok k l D R cc nL own ty) {i : Nat} (lv2 : List (Option Value)) (pc2 : Nat) (hd : decode cc pc = .ok (.astore i, 2)) (hp : pc + 2 = pc2) (hs : lv.set i (some (.null)) = lv2) (hi : i < lv.length) (kk : zv k pc2 lv2 st ws) : zv k pc lv (.null :: st) ws := by
  subst hp
  obtain ⟨p, l', e, R', s, m, args, below, meth, c, D', A, H0, cells, slots, Q⟩ := k
  obtain ⟨rfl, rfl, rfl, hx, hb, hml, hown, hts, hK, hA, hlk, hcl, hsl⟩ := K
  intro H locs ls hP hD hS hl
  subst hs
  obtain ⟨ll, h1, h2⟩ := hl.store (i := i) (v := .null) hi rfl
  exact lv_astoreN hx hb hd h1 hi rfl (fun ls2 h3 => kk H locs ls2 hP hD hS (h2 ls2 h3))
theorem zv_iinc (K : zv_ok k l D R cc nL own ty) {i : Nat} {n : Int} {x : Int32} (y : Int32) (lv2 : List (Option Value)) (pc2 : Nat) (hd : decode cc pc = .ok (.iinc i n, 3)) (hp : pc + 3 = pc2) (h : lv[i]? = some (some (.int x))) (hv : x + Int32.ofInt n = y) (hs : lv.set i (some (.int y)) = lv2) (kk : zv k pc2 lv2 st ws) : zv k pc lv st ws := by
  subst hp
  subst hs
  obtain ⟨p, l', e, R', s, m, args, below, meth, c, D', A, H0, cells, slots, Q⟩ := k
  obtain ⟨rfl, rfl, rfl, hx, hb, hml, hown, hts, hK, hA, hlk, hcl, hsl⟩ := K
  intro H locs ls hP hD hS hl
  have hi : i < lv.length := (List.getElem?_eq_some_iff.mp h).1
  obtain ⟨ll, h1, h2⟩ := hl.store (i := i) (v := .int y) hi rfl
  obtain ⟨c1, c2⟩ := hl.2.2 i _ h
  obtain ⟨l3, h4, h5⟩ := hl.store (i := i) (v := .int y) hi rfl
  have hh : lv_has ls lv.length ((i, .int x) :: ll) := ⟨h1.1, h1.2.1, fun q hq => by
    rcases List.mem_cons.mp hq with e1 | e1
    · rw [e1]; exact c2
    · exact h1.2.2 q e1⟩
  refine lv_iinc (k := 0) hx hb hd hh rfl hv hi rfl (fun ls2 h3 => kk H locs ls2 hP hD hS (h2 ls2 ?_))
  simpa using h3
theorem zv_iadd (K : zv_ok k l D R cc nL own ty) {x y : Int32} (pc2 : Nat) (hd : decode cc pc = .ok (.iadd, 1)) (hp : pc + 1 = pc2) (kk : zv k pc2 lv (.int (x + y) :: st) ws) : zv k pc lv (.int y :: .int x :: st) ws := by
  subst hp
  obtain ⟨p, l', e, R', s, m, args, below, meth, c, D', A, H0, cells, slots, Q⟩ := k
  obtain ⟨rfl, rfl, rfl, hx, hb, hml, hown, hts, hK, hA, hlk, hcl, hsl⟩ := K
  intro H locs ls hP hD hS hl
  exact lv_iadd hx hb hd (kk H locs ls hP hD hS hl)
theorem zv_isub (K : zv_ok k l D R cc nL own ty) {x y : Int32} (pc2 : Nat) (hd : decode cc pc = .ok (.isub, 1)) (hp : pc + 1 = pc2) (kk : zv k pc2 lv (.int (x - y) :: st) ws) : zv k pc lv (.int y :: .int x :: st) ws := by
  subst hp
  obtain ⟨p, l', e, R', s, m, args, below, meth, c, D', A, H0, cells, slots, Q⟩ := k
  obtain ⟨rfl, rfl, rfl, hx, hb, hml, hown, hts, hK, hA, hlk, hcl, hsl⟩ := K
  intro H locs ls hP hD hS hl
  exact lv_isub hx hb hd (kk H locs ls hP hD hS hl)
theorem zv_imul (K : zv_ok k l D R cc nL own ty) {x y : Int32} (pc2 : Nat) (hd : decode cc pc = .ok (.imul, 1)) (hp : pc + 1 = pc2) (kk : zv k pc2 lv (.int (x * y) :: st) ws) : zv k pc lv (.int y :: .int x :: st) ws := by
  subst hp
  obtain ⟨p, l', e, R', s, m, args, below, meth, c, D', A, H0, cells, slots, Q⟩ := k
  obtain ⟨rfl, rfl, rfl, hx, hb, hml, hown, hts, hK, hA, hlk, hcl, hsl⟩ := K
  intro H locs ls hP hD hS hl
  exact lv_imul hx hb hd (kk H locs ls hP hD hS hl)
theorem zv_iand (K : zv_ok k l D R cc nL own ty) {x y : Int32} (pc2 : Nat) (hd : decode cc pc = .ok (.iand, 1)) (hp : pc + 1 = pc2) (kk : zv k pc2 lv (.int (x &&& y) :: st) ws) : zv k pc lv (.int y :: .int x :: st) ws := by
  subst hp
  obtain ⟨p, l', e, R', s, m, args, below, meth, c, D', A, H0, cells, slots, Q⟩ := k
  obtain ⟨rfl, rfl, rfl, hx, hb, hml, hown, hts, hK, hA, hlk, hcl, hsl⟩ := K
  intro H locs ls hP hD hS hl
  exact lv_iand hx hb hd (kk H locs ls hP hD hS hl)
theorem zv_idiv (K : zv_ok k l D R cc nL own ty) {x y : Int32} (pc2 : Nat) (hd : decode cc pc = .ok (.idiv, 1)) (hp : pc + 1 = pc2) (hne : ¬ y = 0) (kk : zv k pc2 lv (.int (x / y) :: st) ws) : zv k pc lv (.int y :: .int x :: st) ws := by
  subst hp
  obtain ⟨p, l', e, R', s, m, args, below, meth, c, D', A, H0, cells, slots, Q⟩ := k
  obtain ⟨rfl, rfl, rfl, hx, hb, hml, hown, hts, hK, hA, hlk, hcl, hsl⟩ := K
  intro H locs ls hP hD hS hl
  exact lv_idiv hx hb hd hne (kk H locs ls hP hD hS hl)
theorem zv_irem (K : zv_ok k l D R cc nL own ty) {x y : Int32} (pc2 : Nat) (hd : decode cc pc = .ok (.irem, 1)) (hp : pc + 1 = pc2) (hne : ¬ y = 0) (kk : zv k pc2 lv (.int (x - x / y * y) :: st) ws) : zv k pc lv (.int y :: .int x :: st) ws := by
  subst hp
  obtain ⟨p, l', e, R', s, m, args, below, meth, c, D', A, H0, cells, slots, Q⟩ := k
  obtain ⟨rfl, rfl, rfl, hx, hb, hml, hown, hts, hK, hA, hlk, hcl, hsl⟩ := K
  intro H locs ls hP hD hS hl
  exact lv_irem hx hb hd hne (kk H locs ls hP hD hS hl)
theorem zv_dup (K : zv_ok k l D R cc nL own ty) {v : Value} (pc2 : Nat) (hd : decode cc pc = .ok (.dup, 1)) (hp : pc + 1 = pc2) (hv : v.category = 1) (kk : zv k pc2 lv (v :: v :: st) ws) : zv k pc lv (v :: st) ws := by
  subst hp
  obtain ⟨p, l', e, R', s, m, args, below, meth, c, D', A, H0, cells, slots, Q⟩ := k
  obtain ⟨rfl, rfl, rfl, hx, hb, hml, hown, hts, hK, hA, hlk, hcl, hsl⟩ := K
  intro H locs ls hP hD hS hl
  exact lv_dup hx hb hd hv (kk H locs ls hP hD hS hl)
theorem zv_dup2 (K : zv_ok k l D R cc nL own ty) {v u : Value} (pc2 : Nat) (hd : decode cc pc = .ok (.dup2, 1)) (hp : pc + 1 = pc2) (hv : v.category = 1) (hu : u.category = 1) (kk : zv k pc2 lv (v :: u :: v :: u :: st) ws) : zv k pc lv (v :: u :: st) ws := by
  subst hp
  obtain ⟨p, l', e, R', s, m, args, below, meth, c, D', A, H0, cells, slots, Q⟩ := k
  obtain ⟨rfl, rfl, rfl, hx, hb, hml, hown, hts, hK, hA, hlk, hcl, hsl⟩ := K
  intro H locs ls hP hD hS hl
  exact lv_dup2_11 hx hb hd hv hu (kk H locs ls hP hD hS hl)
theorem zv_null (K : zv_ok k l D R cc nL own ty)  (pc2 : Nat) (hd : decode cc pc = .ok (.aconst_null, 1)) (hp : pc + 1 = pc2) (kk : zv k pc2 lv (.null :: st) ws) : zv k pc lv (st) ws := by
  subst hp
  obtain ⟨p, l', e, R', s, m, args, below, meth, c, D', A, H0, cells, slots, Q⟩ := k
  obtain ⟨rfl, rfl, rfl, hx, hb, hml, hown, hts, hK, hA, hlk, hcl, hsl⟩ := K
  intro H locs ls hP hD hS hl
  exact lv_null hx hb hd (kk H locs ls hP hD hS hl)
theorem zv_goto (K : zv_ok k l D R cc nL own ty) {off : Int} (tgt : Nat) (hd : decode cc pc = .ok (.goto off, 3)) (ht : (pc : Int) + off = (tgt : Int)) (kk : zv k tgt lv st ws) : zv k pc lv st ws := by
  obtain ⟨p, l', e, R', s, m, args, below, meth, c, D', A, H0, cells, slots, Q⟩ := k
  obtain ⟨rfl, rfl, rfl, hx, hb, hml, hown, hts, hK, hA, hlk, hcl, hsl⟩ := K
  intro H locs ls hP hD hS hl
  exact lv_goto hx hb hd ht (kk H locs ls hP hD hS hl)
theorem zv_if_eq (K : zv_ok k l D R cc nL own ty) {x : Int32} {off : Int} (tgt pc2 : Nat) (hd : decode cc pc = .ok (.ifCond .eq off, 3)) (ht : (pc : Int) + off = (tgt : Int)) (hp : pc + 3 = pc2) (kt : x = 0 → zv k tgt lv st ws) (kf : ¬ x = 0 → zv k pc2 lv st ws) : zv k pc lv (.int x :: st) ws := by
  subst hp
  obtain ⟨p, l', e, R', s, m, args, below, meth, c, D', A, H0, cells, slots, Q⟩ := k
  obtain ⟨rfl, rfl, rfl, hx, hb, hml, hown, hts, hK, hA, hlk, hcl, hsl⟩ := K
  intro H locs ls hP hD hS hl
  exact lv_if_eq hx hb hd ht (fun h => kt h H locs ls hP hD hS hl) (fun h => kf h H locs ls hP hD hS hl)
theorem zv_icmp_eq (K : zv_ok k l D R cc nL own ty) {x y : Int32} {off : Int} (tgt pc2 : Nat) (hd : decode cc pc = .ok (.if_icmp .eq off, 3)) (ht : (pc : Int) + off = (tgt : Int)) (hp : pc + 3 = pc2) (kt : x = y → zv k tgt lv st ws) (kf : ¬ x = y → zv k pc2 lv st ws) : zv k pc lv (.int y :: .int x :: st) ws := by
  subst hp
  obtain ⟨p, l', e, R', s, m, args, below, meth, c, D', A, H0, cells, slots, Q⟩ := k
  obtain ⟨rfl, rfl, rfl, hx, hb, hml, hown, hts, hK, hA, hlk, hcl, hsl⟩ := K
  intro H locs ls hP hD hS hl
  exact lv_icmp_eq hx hb hd ht (fun h => kt h H locs ls hP hD hS hl) (fun h => kf h H locs ls hP hD hS hl)
theorem zv_if_ne (K : zv_ok k l D R cc nL own ty) {x : Int32} {off : Int} (tgt pc2 : Nat) (hd : decode cc pc = .ok (.ifCond .ne off, 3)) (ht : (pc : Int) + off = (tgt : Int)) (hp : pc + 3 = pc2) (kt : ¬ x = 0 → zv k tgt lv st ws) (kf : x = 0 → zv k pc2 lv st ws) : zv k pc lv (.int x :: st) ws := by
  subst hp
  obtain ⟨p, l', e, R', s, m, args, below, meth, c, D', A, H0, cells, slots, Q⟩ := k
  obtain ⟨rfl, rfl, rfl, hx, hb, hml, hown, hts, hK, hA, hlk, hcl, hsl⟩ := K
  intro H locs ls hP hD hS hl
  exact lv_if_ne hx hb hd ht (fun h => kt h H locs ls hP hD hS hl) (fun h => kf h H locs ls hP hD hS hl)
theorem zv_icmp_ne (K : zv_ok k l D R cc nL own ty) {x y : Int32} {off : Int} (tgt pc2 : Nat) (hd : decode cc pc = .ok (.if_icmp .ne off, 3)) (ht : (pc : Int) + off = (tgt : Int)) (hp : pc + 3 = pc2) (kt : ¬ x = y → zv k tgt lv st ws) (kf : x = y → zv k pc2 lv st ws) : zv k pc lv (.int y :: .int x :: st) ws := by
  subst hp
  obtain ⟨p, l', e, R', s, m, args, below, meth, c, D', A, H0, cells, slots, Q⟩ := k
  obtain ⟨rfl, rfl, rfl, hx, hb, hml, hown, hts, hK, hA, hlk, hcl, hsl⟩ := K
  intro H locs ls hP hD hS hl
  exact lv_icmp_ne hx hb hd ht (fun h => kt h H locs ls hP hD hS hl) (fun h => kf h H locs ls hP hD hS hl)
theorem zv_if_lt (K : zv_ok k l D R cc nL own ty) {x : Int32} {off : Int} (tgt pc2 : Nat) (hd : decode cc pc = .ok (.ifCond .lt off, 3)) (ht : (pc : Int) + off = (tgt : Int)) (hp : pc + 3 = pc2) (kt : x < 0 → zv k tgt lv st ws) (kf : ¬ x < 0 → zv k pc2 lv st ws) : zv k pc lv (.int x :: st) ws := by
  subst hp
  obtain ⟨p, l', e, R', s, m, args, below, meth, c, D', A, H0, cells, slots, Q⟩ := k
  obtain ⟨rfl, rfl, rfl, hx, hb, hml, hown, hts, hK, hA, hlk, hcl, hsl⟩ := K
  intro H locs ls hP hD hS hl
  exact lv_if_lt hx hb hd ht (fun h => kt h H locs ls hP hD hS hl) (fun h => kf h H locs ls hP hD hS hl)
theorem zv_icmp_lt (K : zv_ok k l D R cc nL own ty) {x y : Int32} {off : Int} (tgt pc2 : Nat) (hd : decode cc pc = .ok (.if_icmp .lt off, 3)) (ht : (pc : Int) + off = (tgt : Int)) (hp : pc + 3 = pc2) (kt : x < y → zv k tgt lv st ws) (kf : ¬ x < y → zv k pc2 lv st ws) : zv k pc lv (.int y :: .int x :: st) ws := by
  subst hp
  obtain ⟨p, l', e, R', s, m, args, below, meth, c, D', A, H0, cells, slots, Q⟩ := k
  obtain ⟨rfl, rfl, rfl, hx, hb, hml, hown, hts, hK, hA, hlk, hcl, hsl⟩ := K
  intro H locs ls hP hD hS hl
  exact lv_icmp_lt hx hb hd ht (fun h => kt h H locs ls hP hD hS hl) (fun h => kf h H locs ls hP hD hS hl)
theorem zv_if_ge (K : zv_ok k l D R cc nL own ty) {x : Int32} {off : Int} (tgt pc2 : Nat) (hd : decode cc pc = .ok (.ifCond .ge off, 3)) (ht : (pc : Int) + off = (tgt : Int)) (hp : pc + 3 = pc2) (kt : 0 ≤ x → zv k tgt lv st ws) (kf : ¬ 0 ≤ x → zv k pc2 lv st ws) : zv k pc lv (.int x :: st) ws := by
  subst hp
  obtain ⟨p, l', e, R', s, m, args, below, meth, c, D', A, H0, cells, slots, Q⟩ := k
  obtain ⟨rfl, rfl, rfl, hx, hb, hml, hown, hts, hK, hA, hlk, hcl, hsl⟩ := K
  intro H locs ls hP hD hS hl
  exact lv_if_ge hx hb hd ht (fun h => kt h H locs ls hP hD hS hl) (fun h => kf h H locs ls hP hD hS hl)
theorem zv_icmp_ge (K : zv_ok k l D R cc nL own ty) {x y : Int32} {off : Int} (tgt pc2 : Nat) (hd : decode cc pc = .ok (.if_icmp .ge off, 3)) (ht : (pc : Int) + off = (tgt : Int)) (hp : pc + 3 = pc2) (kt : y ≤ x → zv k tgt lv st ws) (kf : ¬ y ≤ x → zv k pc2 lv st ws) : zv k pc lv (.int y :: .int x :: st) ws := by
  subst hp
  obtain ⟨p, l', e, R', s, m, args, below, meth, c, D', A, H0, cells, slots, Q⟩ := k
  obtain ⟨rfl, rfl, rfl, hx, hb, hml, hown, hts, hK, hA, hlk, hcl, hsl⟩ := K
  intro H locs ls hP hD hS hl
  exact lv_icmp_ge hx hb hd ht (fun h => kt h H locs ls hP hD hS hl) (fun h => kf h H locs ls hP hD hS hl)
theorem zv_if_gt (K : zv_ok k l D R cc nL own ty) {x : Int32} {off : Int} (tgt pc2 : Nat) (hd : decode cc pc = .ok (.ifCond .gt off, 3)) (ht : (pc : Int) + off = (tgt : Int)) (hp : pc + 3 = pc2) (kt : 0 < x → zv k tgt lv st ws) (kf : ¬ 0 < x → zv k pc2 lv st ws) : zv k pc lv (.int x :: st) ws := by
  subst hp
  obtain ⟨p, l', e, R', s, m, args, below, meth, c, D', A, H0, cells, slots, Q⟩ := k
  obtain ⟨rfl, rfl, rfl, hx, hb, hml, hown, hts, hK, hA, hlk, hcl, hsl⟩ := K
  intro H locs ls hP hD hS hl
  exact lv_if_gt hx hb hd ht (fun h => kt h H locs ls hP hD hS hl) (fun h => kf h H locs ls hP hD hS hl)
theorem zv_icmp_gt (K : zv_ok k l D R cc nL own ty) {x y : Int32} {off : Int} (tgt pc2 : Nat) (hd : decode cc pc = .ok (.if_icmp .gt off, 3)) (ht : (pc : Int) + off = (tgt : Int)) (hp : pc + 3 = pc2) (kt : y < x → zv k tgt lv st ws) (kf : ¬ y < x → zv k pc2 lv st ws) : zv k pc lv (.int y :: .int x :: st) ws := by
  subst hp
  obtain ⟨p, l', e, R', s, m, args, below, meth, c, D', A, H0, cells, slots, Q⟩ := k
  obtain ⟨rfl, rfl, rfl, hx, hb, hml, hown, hts, hK, hA, hlk, hcl, hsl⟩ := K
  intro H locs ls hP hD hS hl
  exact lv_icmp_gt hx hb hd ht (fun h => kt h H locs ls hP hD hS hl) (fun h => kf h H locs ls hP hD hS hl)
theorem zv_if_le (K : zv_ok k l D R cc nL own ty) {x : Int32} {off : Int} (tgt pc2 : Nat) (hd : decode cc pc = .ok (.ifCond .le off, 3)) (ht : (pc : Int) + off = (tgt : Int)) (hp : pc + 3 = pc2) (kt : x ≤ 0 → zv k tgt lv st ws) (kf : ¬ x ≤ 0 → zv k pc2 lv st ws) : zv k pc lv (.int x :: st) ws := by
  subst hp
  obtain ⟨p, l', e, R', s, m, args, below, meth, c, D', A, H0, cells, slots, Q⟩ := k
  obtain ⟨rfl, rfl, rfl, hx, hb, hml, hown, hts, hK, hA, hlk, hcl, hsl⟩ := K
  intro H locs ls hP hD hS hl
  exact lv_if_le hx hb hd ht (fun h => kt h H locs ls hP hD hS hl) (fun h => kf h H locs ls hP hD hS hl)
theorem zv_icmp_le (K : zv_ok k l D R cc nL own ty) {x y : Int32} {off : Int} (tgt pc2 : Nat) (hd : decode cc pc = .ok (.if_icmp .le off, 3)) (ht : (pc : Int) + off = (tgt : Int)) (hp : pc + 3 = pc2) (kt : x ≤ y → zv k tgt lv st ws) (kf : ¬ x ≤ y → zv k pc2 lv st ws) : zv k pc lv (.int y :: .int x :: st) ws := by
  subst hp
  obtain ⟨p, l', e, R', s, m, args, below, meth, c, D', A, H0, cells, slots, Q⟩ := k
  obtain ⟨rfl, rfl, rfl, hx, hb, hml, hown, hts, hK, hA, hlk, hcl, hsl⟩ := K
  intro H locs ls hP hD hS hl
  exact lv_icmp_le hx hb hd ht (fun h => kt h H locs ls hP hD hS hl) (fun h => kf h H locs ls hP hD hS hl)
theorem zv_ifnonnull (K : zv_ok k l D R cc nL own ty) {x : Nat} {off : Int} (tgt : Nat) (hd : decode cc pc = .ok (.ifnonnull off, 3)) (ht : (pc : Int) + off = (tgt : Int)) (kk : zv k tgt lv st ws) : zv k pc lv (.ref x :: st) ws := by
  obtain ⟨p, l', e, R', s, m, args, below, meth, c, D', A, H0, cells, slots, Q⟩ := k
  obtain ⟨rfl, rfl, rfl, hx, hb, hml, hown, hts, hK, hA, hlk, hcl, hsl⟩ := K
  intro H locs ls hP hD hS hl
  exact lv_ifnonnull hx hb hd ht (kk H locs ls hP hD hS hl)
theorem zv_ifnonnullN (K : zv_ok k l D R cc nL own ty) {off : Int} (pc2 : Nat) (hd : decode cc pc = .ok (.ifnonnull off, 3)) (hp : pc + 3 = pc2) (kk : zv k pc2 lv st ws) : zv k pc lv (.null :: st) ws := by
  subst hp
  obtain ⟨p, l', e, R', s, m, args, below, meth, c, D', A, H0, cells, slots, Q⟩ := k
  obtain ⟨rfl, rfl, rfl, hx, hb, hml, hown, hts, hK, hA, hlk, hcl, hsl⟩ := K
  intro H locs ls hP hD hS hl
  exact lv_ifnonnullN hx hb hd (kk H locs ls hP hD hS hl)
theorem zv_ifnull (K : zv_ok k l D R cc nL own ty) {x : Nat} {off : Int} (pc2 : Nat) (hd : decode cc pc = .ok (.ifnull off, 3)) (hp : pc + 3 = pc2) (kk : zv k pc2 lv st ws) : zv k pc lv (.ref x :: st) ws := by
  subst hp
  obtain ⟨p, l', e, R', s, m, args, below, meth, c, D', A, H0, cells, slots, Q⟩ := k
  obtain ⟨rfl, rfl, rfl, hx, hb, hml, hown, hts, hK, hA, hlk, hcl, hsl⟩ := K
  intro H locs ls hP hD hS hl
  exact lv_ifnull hx hb hd (kk H locs ls hP hD hS hl)
theorem zv_ifnullN (K : zv_ok k l D R cc nL own ty) {off : Int} (tgt : Nat) (hd : decode cc pc = .ok (.ifnull off, 3)) (ht : (pc : Int) + off = (tgt : Int)) (kk : zv k tgt lv st ws) : zv k pc lv (.null :: st) ws := by
  obtain ⟨p, l', e, R', s, m, args, below, meth, c, D', A, H0, cells, slots, Q⟩ := k
  obtain ⟨rfl, rfl, rfl, hx, hb, hml, hown, hts, hK, hA, hlk, hcl, hsl⟩ := K
  intro H locs ls hP hD hS hl
  exact lv_ifnullN hx hb hd ht (kk H locs ls hP hD hS hl)
theorem zv_lookup (K : zv_ok k l D R cc nL own ty) {dflt : Int} {ps : Array (Int × Int)} {len : Nat} {x : Int32} {off : Int} (tgt : Nat) (hd : decode cc pc = .ok (.lookupswitch dflt ps, len)) (hq : (ps.toList.zip (ps.toList.drop 1)).all (fun (a, next) => a.1 < next.1) = true) (ho : Op.lookupswitch.offset ps.toList dflt x.toInt = off) (ht : (pc : Int) + off = (tgt : Int)) (kk : zv k tgt lv st ws) : zv k pc lv (.int x :: st) ws := by
  obtain ⟨p, l', e, R', s, m, args, below, meth, c, D', A, H0, cells, slots, Q⟩ := k
  obtain ⟨rfl, rfl, rfl, hx, hb, hml, hown, hts, hK, hA, hlk, hcl, hsl⟩ := K
  intro H locs ls hP hD hS hl
  exact lv_lookup hx hb hd hq ho ht (kk H locs ls hP hD hS hl)
theorem zv_tableOut (K : zv_ok k l D R cc nL own ty) {dflt lo hi : Int} {offs : Array Int} {len : Nat} {x : Int32} (tgt : Nat) (hd : decode cc pc = .ok (.tableswitch dflt lo hi offs, len)) (h : x.toInt < lo ∨ hi < x.toInt) (ht : (pc : Int) + dflt = (tgt : Int)) (kk : zv k tgt lv st ws) : zv k pc lv (.int x :: st) ws := by
  obtain ⟨p, l', e, R', s, m, args, below, meth, c, D', A, H0, cells, slots, Q⟩ := k
  obtain ⟨rfl, rfl, rfl, hx, hb, hml, hown, hts, hK, hA, hlk, hcl, hsl⟩ := K
  intro H locs ls hP hD hS hl
  exact lv_tableOut hx hb hd h ht (kk H locs ls hP hD hS hl)
theorem zv_tableIn (K : zv_ok k l D R cc nL own ty) {dflt lo hi : Int} {offs : Array Int} {len : Nat} {x : Int32} {off : Int} (tgt : Nat) (hd : decode cc pc = .ok (.tableswitch dflt lo hi offs, len)) (h1 : ¬ x.toInt < lo) (h2 : ¬ hi < x.toInt) (ho : offs[(x.toInt - lo).toNat]? = some off) (ht : (pc : Int) + off = (tgt : Int)) (kk : zv k tgt lv st ws) : zv k pc lv (.int x :: st) ws := by
  obtain ⟨p, l', e, R', s, m, args, below, meth, c, D', A, H0, cells, slots, Q⟩ := k
  obtain ⟨rfl, rfl, rfl, hx, hb, hml, hown, hts, hK, hA, hlk, hcl, hsl⟩ := K
  intro H locs ls hP hD hS hl
  exact lv_tableIn hx hb hd h1 h2 ho ht (kk H locs ls hP hD hS hl)
theorem zv_get (K : zv_ok k l D R cc nL own ty) {C : String} {T : u_T} {N ci idx : Nat} {a : Nat} {fs : List Value} {v : Value} (q0 f pc2 : Nat) (hd : decode cc pc = .ok (.getfield idx, 3)) (hp : pc + 3 = pc2) (hin : ∀ w ∈ u_ws C T N, w ∈ zT) (he : ws[q0]? = some (a, .inr (ci, fs))) (hc : vwCl[ci]? = some (C, T, N)) (hf : f < N) (hlk2 : Cond.fieldLink own idx (T f).1 (T f).2.1 (T f).2.2.1 ∈ zT) (hv : fs[f]? = some v) (kk : zv k pc2 lv (v :: st) ws) : zv k pc lv (.ref a :: st) ws := by
  subst hp
  obtain ⟨p, l', e, R', s, m, args, below, meth, c, D', A, H0, cells, slots, Q⟩ := k
  obtain ⟨rfl, rfl, rfl, hx, hb, hml, hown, hts, hK, hA, hlk, hcl, hsl⟩ := K
  intro H locs ls hP hD hS hl
  exact va_get hx hb hts hin hown hK.1 hP q0 he hc f hf (hts _ hlk2) (fun _ h9 => h9) hv hd (kk H locs ls hP hD hS hl)
theorem zv_getN (K : zv_ok k l D R cc nL own ty) {host : String} {C : String} {T : u_T} {N ci idx : Nat} {a : Nat} {fs : List Value} {v : Value} (q0 f pc2 : Nat) (hd : decode cc pc = .ok (.getfield idx, 3)) (hp : pc + 3 = pc2) (hin : ∀ w ∈ u_ws C T N, w ∈ zT) (he : ws[q0]? = some (a, .inr (ci, fs))) (hc : vwCl[ci]? = some (C, T, N)) (hf : f < N) (hlk2 : Cond.fieldLinkNest own idx (T f).1 (T f).2.1 (T f).2.2.1 host ∈ zv_nest) (hv : fs[f]? = some v) (kk : zv k pc2 lv (v :: st) ws) : zv k pc lv (.ref a :: st) ws := by
  subst hp
  obtain ⟨p, l', e, R', s, m, args, below, meth, c, D', A, H0, cells, slots, Q⟩ := k
  obtain ⟨rfl, rfl, rfl, hx, hb, hml, hown, hts, hK, hA, hlk, hcl, hsl⟩ := K
  intro H locs ls hP hD hS hl
  exact va_getN hx hb hts hin hown hK.1 hP q0 he hc f hf (va_Nw.use rfl (hK.2 _ hlk2)) (fun _ h9 => h9) hv hd (kk H locs ls hP hD hS hl)
theorem zv_put (K : zv_ok k l D R cc nL own ty) {C : String} {T : u_T} {N ci idx : Nat} {a : Nat} {fs : List Value} {v : Value} (q0 f pc2 : Nat) (ws2 : va_W) {t0 : FieldType} {t1 : Nat → FieldType} (hd : decode cc pc = .ok (.putfield idx, 3)) (hp : pc + 3 = pc2) (hin : ∀ w ∈ u_ws C T N, w ∈ zT) (hty : ∀ k, k < N → parseFieldDescriptor (T k).2.2.1 = some (t1 k)) (hnm : ∀ a, a < N → ∀ b, b < N → a ≠ b → (T a).2.1 ≠ (T b).2.1) (he : ws[q0]? = some (a, .inr (ci, fs))) (hc : vwCl[ci]? = some (C, T, N)) (hf : f < N) (hlk2 : Cond.fieldLink own idx (T f).1 (T f).2.1 (T f).2.2.1 ∈ zT) (hfin : (T f).2.2.2 = false) (ht0 : parseFieldDescriptor (T f).2.2.1 = some t0) (hn : narrow t0 v = v) (hfit : fits t0 v = true) (hfl : f < fs.length) (hw2 : ws.set q0 (a, .inr (ci, fs.set f v)) = ws2) (kk : zv k pc2 lv st ws2) : zv k pc lv (v :: .ref a :: st) ws := by
  subst hp
  subst hw2
  obtain ⟨p, l', e, R', s, m, args, below, meth, c, D', A, H0, cells, slots, Q⟩ := k
  obtain ⟨rfl, rfl, rfl, hx, hb, hml, hown, hts, hK, hA, hlk, hcl, hsl⟩ := K
  intro H locs ls hP hD hS hl
  exact va_put hx hb hts hin t1 hty hnm hown hK.1 hP hD hS q0 he hc f hf (hts _ hlk2) (fun _ h9 => h9) hfin ht0 hn hfit hfl hd (fun H1 locs1 hP1 hD1 hS1 => kk H1 locs1 ls hP1 hD1 hS1 hl)
theorem zv_putN (K : zv_ok k l D R cc nL own ty) {host : String} {C : String} {T : u_T} {N ci idx : Nat} {a : Nat} {fs : List Value} {v : Value} (q0 f pc2 : Nat) (ws2 : va_W) {t0 : FieldType} {t1 : Nat → FieldType} (hd : decode cc pc = .ok (.putfield idx, 3)) (hp : pc + 3 = pc2) (hin : ∀ w ∈ u_ws C T N, w ∈ zT) (hty : ∀ k, k < N → parseFieldDescriptor (T k).2.2.1 = some (t1 k)) (hnm : ∀ a, a < N → ∀ b, b < N → a ≠ b → (T a).2.1 ≠ (T b).2.1) (he : ws[q0]? = some (a, .inr (ci, fs))) (hc : vwCl[ci]? = some (C, T, N)) (hf : f < N) (hlk2 : Cond.fieldLinkNest own idx (T f).1 (T f).2.1 (T f).2.2.1 host ∈ zv_nest) (hfin : (T f).2.2.2 = false) (ht0 : parseFieldDescriptor (T f).2.2.1 = some t0) (hn : narrow t0 v = v) (hfit : fits t0 v = true) (hfl : f < fs.length) (hw2 : ws.set q0 (a, .inr (ci, fs.set f v)) = ws2) (kk : zv k pc2 lv st ws2) : zv k pc lv (v :: .ref a :: st) ws := by
  subst hp
  subst hw2
  obtain ⟨p, l', e, R', s, m, args, below, meth, c, D', A, H0, cells, slots, Q⟩ := k
  obtain ⟨rfl, rfl, rfl, hx, hb, hml, hown, hts, hK, hA, hlk, hcl, hsl⟩ := K
  intro H locs ls hP hD hS hl
  exact va_putN hx hb hts hin t1 hty hnm hown hK.1 hP hD hS q0 he hc f hf (va_Nw.use rfl (hK.2 _ hlk2)) (fun _ h9 => h9) hfin ht0 hn hfit hfl hd (fun H1 locs1 hP1 hD1 hS1 => kk H1 locs1 ls hP1 hD1 hS1 hl)
theorem zv_ix {x : Int32} {i n : Nat} (hi : x = nI i) (h : i < n) (hn : n < 2 ^ 31) : vp_in x n ∧ x.toNatClampNeg = i := by
  subst hi
  exact ⟨vp_in_nI h hn, nI_clamp (Nat.lt_trans h hn)⟩
theorem zv_iald (K : zv_ok k l D R cc nL own ty) {a n : Nat} {F : Nat → Int32} {x : Int32} (q0 i pc2 : Nat) (hd : decode cc pc = .ok (.iaload, 1)) (hp : pc + 1 = pc2) (ha : ws[q0]? = some (a, .inl (ty.1, n, .inl F))) (hi : x = nI i) (hlt : i < n) (hn : n < 2 ^ 31) (kk : zv k pc2 lv (.int (F i) :: st) ws) : zv k pc lv (.int x :: .ref a :: st) ws := by
  subst hp
  obtain ⟨h1, h2⟩ := zv_ix hi hlt hn
  obtain ⟨p, l', e, R', s, m, args, below, meth, c, D', A, H0, cells, slots, Q⟩ := k
  obtain ⟨rfl, rfl, rfl, hx, hb, hml, hown, hts, hK, hA, hlk, hcl, hsl⟩ := K
  intro H locs ls hP hD hS hl
  exact va_iald hx hb hK.1 hP q0 0 ha rfl h1 hd (by rw [h2]; exact kk H locs ls hP hD hS hl)
theorem zv_zald (K : zv_ok k l D R cc nL own ty) {a n : Nat} {F : Nat → Int32} {x : Int32} (q0 i pc2 : Nat) (hd : decode cc pc = .ok (.baload, 1)) (hp : pc + 1 = pc2) (ha : ws[q0]? = some (a, .inl (ty.2.1, n, .inl F))) (hi : x = nI i) (hlt : i < n) (hn : n < 2 ^ 31) (kk : zv k pc2 lv (.int (F i) :: st) ws) : zv k pc lv (.int x :: .ref a :: st) ws := by
  subst hp
  obtain ⟨h1, h2⟩ := zv_ix hi hlt hn
  obtain ⟨p, l', e, R', s, m, args, below, meth, c, D', A, H0, cells, slots, Q⟩ := k
  obtain ⟨rfl, rfl, rfl, hx, hb, hml, hown, hts, hK, hA, hlk, hcl, hsl⟩ := K
  intro H locs ls hP hD hS hl
  exact va_zald hx hb hK.1 hP q0 1 ha rfl h1 hd (by rw [h2]; exact kk H locs ls hP hD hS hl)
theorem zv_aald (K : zv_ok k l D R cc nL own ty) {a n : Nat} {F : Nat → Option Nat} {x : Int32} (q0 i pc2 : Nat) {b : Nat} (hd : decode cc pc = .ok (.aaload, 1)) (hp : pc + 1 = pc2) (ha : ws[q0]? = some (a, .inl (ty.2.2, n, .inr (.inr (.inr (.inr F)))))) (hi : x = nI i) (hlt : i < n) (hn : n < 2 ^ 31) (hF : F i = some b) (kk : zv k pc2 lv (.ref b :: st) ws) : zv k pc lv (.int x :: .ref a :: st) ws := by
  subst hp
  obtain ⟨h1, h2⟩ := zv_ix hi hlt hn
  obtain ⟨p, l', e, R', s, m, args, below, meth, c, D', A, H0, cells, slots, Q⟩ := k
  obtain ⟨rfl, rfl, rfl, hx, hb, hml, hown, hts, hK, hA, hlk, hcl, hsl⟩ := K
  intro H locs ls hP hD hS hl
  exact va_aldq hx hb hK.1 hP q0 2 ha rfl h1 hd (by rw [h2, hF]; exact kk H locs ls hP hD hS hl)
theorem zv_iast (K : zv_ok k l D R cc nL own ty) {a n : Nat} {F : Nat → Int32} {x z : Int32} (q0 i pc2 : Nat) (ws2 : va_W) (hd : decode cc pc = .ok (.iastore, 1)) (hp : pc + 1 = pc2) (ha : ws[q0]? = some (a, .inl (ty.1, n, .inl F))) (hi : x = nI i) (hlt : i < n) (hn : n < 2 ^ 31) (hw2 : ws.set q0 (a, .inl (ty.1, n, .inl (upd F i z))) = ws2) (kk : zv k pc2 lv st ws2) : zv k pc lv (.int z :: .int x :: .ref a :: st) ws := by
  subst hp
  obtain ⟨h1, h2⟩ := zv_ix hi hlt hn
  subst hw2
  obtain ⟨p, l', e, R', s, m, args, below, meth, c, D', A, H0, cells, slots, Q⟩ := k
  obtain ⟨rfl, rfl, rfl, hx, hb, hml, hown, hts, hK, hA, hlk, hcl, hsl⟩ := K
  intro H locs ls hP hD hS hl
  refine va_iast hx hb hK.1 hP hD hS q0 0 ha rfl h1 hd (fun H1 locs1 hP1 hD1 hS1 => ?_)
  rw [h2] at hP1 hD1
  exact kk H1 locs1 ls hP1 hD1 hS1 hl
theorem zv_zast (K : zv_ok k l D R cc nL own ty) {a n : Nat} {F : Nat → Int32} {x z : Int32} (q0 i pc2 : Nat) (ws2 : va_W) (hd : decode cc pc = .ok (.bastore, 1)) (hp : pc + 1 = pc2) (ha : ws[q0]? = some (a, .inl (ty.2.1, n, .inl F))) (hi : x = nI i) (hlt : i < n) (hn : n < 2 ^ 31) (hz : vp_nar .boolean z = z) (hw2 : ws.set q0 (a, .inl (ty.2.1, n, .inl (upd F i z))) = ws2) (kk : zv k pc2 lv st ws2) : zv k pc lv (.int z :: .int x :: .ref a :: st) ws := by
  subst hp
  obtain ⟨h1, h2⟩ := zv_ix hi hlt hn
  subst hw2
  obtain ⟨p, l', e, R', s, m, args, below, meth, c, D', A, H0, cells, slots, Q⟩ := k
  obtain ⟨rfl, rfl, rfl, hx, hb, hml, hown, hts, hK, hA, hlk, hcl, hsl⟩ := K
  intro H locs ls hP hD hS hl
  refine va_zast hx hb hK.1 hP hD hS q0 1 ha rfl h1 hd (fun H1 locs1 hP1 hD1 hS1 => ?_)
  rw [h2, hz] at hP1 hD1
  exact kk H1 locs1 ls hP1 hD1 hS1 hl
theorem zv_alen (K : zv_ok k l D R cc nL own ty) {a n : Nat} {F : Nat → Int32} (q0 pc2 : Nat) (v : Int32) (hd : decode cc pc = .ok (.arraylength, 1)) (hp : pc + 1 = pc2) (ha : ws[q0]? = some (a, .inl (ty.1, n, .inl F))) (hv : Int32.ofNat n = v) (kk : zv k pc2 lv (.int v :: st) ws) : zv k pc lv (.ref a :: st) ws := by
  subst hp
  obtain ⟨p, l', e, R', s, m, args, below, meth, c, D', A, H0, cells, slots, Q⟩ := k
  obtain ⟨rfl, rfl, rfl, hx, hb, hml, hown, hts, hK, hA, hlk, hcl, hsl⟩ := K
  intro H locs ls hP hD hS hl
  exact va_alen hx hb hK.1 hP q0 0 ha rfl hv hd (kk H locs ls hP hD hS hl)
variable {post : Option Value → va_W → Prop}
theorem zv_iret (K : zv_ok k l D R cc nL own ty) (T : zv_rt k (some .int) post) {v : Int32} (hd : decode cc pc = .ok (.ireturn, 1)) (hp : post (some (.int v)) ws) : zv k pc lv [.int v] ws := by
  obtain ⟨p, l', e, R', s, m, args, below, meth, c, D', A, H0, cells, slots, Q⟩ := k
  obtain ⟨rfl, rfl, rfl, hx, hb, hml, hown, hts, hK, hA, hlk, hcl, hsl⟩ := K
  obtain ⟨hr, rfl, rfl⟩ := T
  intro H locs ls hP hD hS hl
  exact W.iret hx hb hr (fun t ht hW => ⟨⟨_, ws, rfl, hp, by rw [ht]; exact hP, hD⟩, hS.F ht⟩) hS.2.2 hd hlk
theorem zv_zret (K : zv_ok k l D R cc nL own ty) (T : zv_rt k (some .boolean) post) {v : Int32} (hd : decode cc pc = .ok (.ireturn, 1)) (hn : narrow .boolean (.int v) = .int v) (hp : post (some (.int v)) ws) : zv k pc lv [.int v] ws := by
  obtain ⟨p, l', e, R', s, m, args, below, meth, c, D', A, H0, cells, slots, Q⟩ := k
  obtain ⟨rfl, rfl, rfl, hx, hb, hml, hown, hts, hK, hA, hlk, hcl, hsl⟩ := K
  obtain ⟨hr, rfl, rfl⟩ := T
  intro H locs ls hP hD hS hl
  exact W.zret hx hb hr hn (fun t ht hW => ⟨⟨_, ws, rfl, hp, by rw [ht]; exact hP, hD⟩, hS.F ht⟩) hS.2.2 hd hlk
theorem zv_vret (K : zv_ok k l D R cc nL own ty) (T : zv_rt k none post) (hd : decode cc pc = .ok (.return_, 1)) (hp : post none ws) : zv k pc lv [] ws := by
  obtain ⟨p, l', e, R', s, m, args, below, meth, c, D', A, H0, cells, slots, Q⟩ := k
  obtain ⟨rfl, rfl, rfl, hx, hb, hml, hown, hts, hK, hA, hlk, hcl, hsl⟩ := K
  obtain ⟨hr, rfl, rfl⟩ := T
  intro H locs ls hP hD hS hl
  exact W.vret hx hb hr (fun t ht hW => ⟨⟨_, ws, rfl, hp, by rw [ht]; exact hP, hD⟩, hS.F ht⟩) hS.2.2 hd hlk
theorem zv_aret (K : zv_ok k l D R cc nL own ty) {C : String} (T : zv_rt k (some (.object C)) post) {v : Value} (hd : decode cc pc = .ok (.areturn, 1)) (hv : v = .null ∨ ∃ a, v = .ref a) (hp : post (some v) ws) : zv k pc lv [v] ws := by
  obtain ⟨p, l', e, R', s, m, args, below, meth, c, D', A, H0, cells, slots, Q⟩ := k
  obtain ⟨rfl, rfl, rfl, hx, hb, hml, hown, hts, hK, hA, hlk, hcl, hsl⟩ := K
  obtain ⟨hr, rfl, rfl⟩ := T
  intro H locs ls hP hD hS hl
  exact W.aret hx hb hr (Or.inl ⟨_, rfl⟩) hv (fun t ht hW => ⟨⟨_, ws, rfl, hp, by rw [ht]; exact hP, hD⟩, hS.F ht⟩) hS.2.2 hd hlk
theorem zv_A {A : Nat → Prop} {H0 H : Heap} {locs : List Loc} {w : va_W} (hD : va_D A w) (hS : va_S A H0 H locs) (hA : ∀ q, H0.size ≤ q → A q) : ∀ q, va_A w H.size q → A q := by
  intro q h
  rcases h with ⟨i, e, h⟩ | h
  · exact hD.2 i (q, e) h
  · exact hA q (Nat.le_trans hS.1 h)
theorem zv_after {p : Program} {l : Launch} {e : Env} {R : Room} {s : State} {m : MethodId} {args : Array Value} {below : List Frame} {meth : Method} {c : Code} {H : Heap} {locs : List Loc} {cells slots : Nat} {Q : State → Prop} {D : va_G} {A : Nat → Prop} {H0 : Heap} {ls : Array Slot} {st0 rest : List Value} {a : Array Value} {w : va_W} (hl : zv_l ls lv) (hD : va_D A w) (hS : va_S A H0 H locs) (hA : ∀ q, H0.size ≤ q → A q)
    (hr : va_Run p l e R s m args below meth c H locs cells slots 0 0 (F0 m pc ls st0) rest (zv_qc D post (va_A w H.size) a) (va_A w H.size))
    (kk : ∀ (v : Option Value) (w' : va_W), post v w' → zv (p, l, e, R, s, m, args, below, meth, c, D, A, H0, cells, slots, Q) (pc + 3) lv (v.toList ++ rest) w') : W p l e R s m args below meth c H locs cells slots Q (F0 m pc ls st0) := by
  intro T hT X
  obtain ⟨v, st₀, t, T', L, h0, X', hL, e1, e2, ⟨⟨v', w', hv, hp, hP', hD'⟩, hz, hk⟩, st⟩ := hr T hT X
  cases hv
  rw [h0] at hz hk
  have hF := zv_A hD hS hA
  obtain ⟨t2, a1, b1⟩ := kk v w' hp T'.heap (locs ++ L) ls (by rw [e1]; exact hP') (hD'.weaken (fun _ _ _ h => hF _ h))
    ⟨Nat.le_trans hS.1 (by rw [e1]; exact hz), fun q h1 h2 => by rw [e1, hk q (Nat.lt_of_lt_of_le h1 hS.1) (fun z => h2 (hF q z))]; exact hS.2.1 q h1 h2, fun q hq => by
      rcases List.mem_append.mp hq with h | h
      · exact hS.2.2 q h
      · exact hF _ (hL q h)⟩ hl T' rfl X'
  exact ⟨t2, st t2 a1, b1⟩
theorem zv_cV (K : zv_ok k l D R cc nL own ty) {y : MethodName} {bytes : ByteArray} {maxL idx : Nat} {ret : Option FieldType} {rm : Room} {b ci q0 : Nat} {C : String} {T : u_T} {N : Nat} {fs : List Value} {As rest : List Value} (n pc2 : Nat) (hM : zv_ct l D ty y bytes maxL ret rm (.ref b :: As) ws post) (hd : decode cc pc = .ok (.invokevirtual idx, 3)) (hp : pc + 3 = pc2) (w1 : Cond.methodLink own idx y ∈ zT) (w2 : Cond.instanceMethod y ∈ zT) (w3 : Cond.selects C y y ∈ zT) (w4 : Cond.initialized C ∈ zT) (w5 : Cond.code y bytes maxL ret ∈ zT) (hrm : rm.cells = 0 ∧ rm.slots = 0) (hy : y.cls = C ∧ y.cls ≠ "java/lang/invoke/MethodHandle" ∧ y.cls ≠ "java/lang/invoke/VarHandle" ∧ (parseMethodDescriptor y.desc).map (fun d => d.parameters.length) = some n) (hR : rm.frames + 1 ≤ R.frames ∧ 8 + (maxL + 11) + rm.locals ≤ R.locals) (he : ws[q0]? = some (b, .inr (ci, fs))) (hc : vwCl[ci]? = some (C, T, N)) (hn : As.length = n) (hst : As.reverse ++ .ref b :: rest = st) (hcat : (rest.map fun v => v.category).sum ≤ 8) (hlen : lv.length = nL)
    (kk : ∀ (v : Option Value) (w' : va_W), post v w' → zv k pc2 lv (v.toList ++ rest) w') : zv k pc lv st ws := by
  subst hp
  subst hst
  obtain ⟨p, l', e, R', s, m, args, below, meth, c, D', A, H0, cells, slots, Q⟩ := k
  obtain ⟨rfl, rfl, rfl, hx, hb, hml, hown, hts, hK, hA, hlk, hcl, hsl⟩ := K
  intro H locs ls hP hD hS hl
  have hG : GoodIn zT (wsV own idx C y (Cond.code y bytes maxL ret :: zT)) := by
    intro w hw
    have hm : w ∈ zT := by
      simp only [wsV, List.mem_append, List.mem_cons, List.not_mem_nil, or_false] at hw
      rcases hw with (rfl | rfl | rfl | rfl) | rfl | h <;> assumption
    exact ⟨hm, zT_good _ hm⟩
  refine zv_after hl hD hS hA (va_runV (As := As) (rest := rest) ⟨hx, hb, hml, hown, hts⟩ (hM H.size) (cwV n hts hG rfl hrm.1 hrm.2 hy hR) ⟨zv_blind, va_recv hK.1 hP hc he, fun U hU hW => ⟨rfl, by rw [hU], by rw [hU]; exact hP, hK.warm hW, hD.weaken (fun _ _ _ _ => trivial)⟩⟩ rfl hn (hl.1.trans hlen) rfl (lv_room hcat) hd ⟨hcl, hsl⟩) kk
theorem zv_cS (K : zv_ok k l D R cc nL own ty) {y : MethodName} {bytes : ByteArray} {maxL idx : Nat} {ret : Option FieldType} {rm : Room} {As rest : List Value} (n pc2 : Nat) (hM : zv_ct l D ty y bytes maxL ret rm As ws post) (hd : decode cc pc = .ok (.invokestatic idx, 3)) (hp : pc + 3 = pc2) (w1 : Cond.methodLink own idx y ∈ zT) (w2 : Cond.static y ∈ zT) (w4 : Cond.initialized y.cls ∈ zT) (w5 : Cond.code y bytes maxL ret ∈ zT) (hrm : rm.cells = 0 ∧ rm.slots = 0) (hy : y.cls ≠ "java/lang/invoke/MethodHandle" ∧ y.cls ≠ "java/lang/invoke/VarHandle" ∧ (parseMethodDescriptor y.desc).map (fun d => d.parameters.length) = some n) (hR : rm.frames + 1 ≤ R.frames ∧ 8 + (maxL + 11) + rm.locals ≤ R.locals) (hn : As.length = n) (hst : As.reverse ++ rest = st) (hcat : (rest.map fun v => v.category).sum ≤ 8) (hlen : lv.length = nL)
    (kk : ∀ (v : Option Value) (w' : va_W), post v w' → zv k pc2 lv (v.toList ++ rest) w') : zv k pc lv st ws := by
  subst hp
  subst hst
  obtain ⟨p, l', e, R', s, m, args, below, meth, c, D', A, H0, cells, slots, Q⟩ := k
  obtain ⟨rfl, rfl, rfl, hx, hb, hml, hown, hts, hK, hA, hlk, hcl, hsl⟩ := K
  intro H locs ls hP hD hS hl
  have hG : GoodIn zT (va_wsS own idx y (Cond.code y bytes maxL ret :: zT)) := by
    intro w hw
    have hm : w ∈ zT := by
      simp only [va_wsS, List.mem_append, List.mem_cons, List.not_mem_nil, or_false] at hw
      rcases hw with (rfl | rfl | rfl) | rfl | h <;> assumption
    exact ⟨hm, zT_good _ hm⟩
  refine zv_after hl hD hS hA (va_runS (As := As) (rest := rest) ⟨hx, hb, hml, hown, hts⟩ (hM H.size) (va_cwS n hts hG rfl hrm.1 hrm.2 hy hR) ⟨zv_blind, fun U hU hW => ⟨rfl, by rw [hU], by rw [hU]; exact hP, hK.warm hW, hD.weaken (fun _ _ _ _ => trivial)⟩⟩ rfl hn (hl.1.trans hlen) rfl (lv_room hcat) hd ⟨hcl, hsl⟩) kk
theorem zv_cSN (K : zv_ok k l D R cc nL own ty) {y : MethodName} {bytes : ByteArray} {maxL idx : Nat} {ret : Option FieldType} {rm : Room} {host : String} {As rest : List Value} (n pc2 : Nat) (hM : zv_ct l D ty y bytes maxL ret rm As ws post) (hd : decode cc pc = .ok (.invokestatic idx, 3)) (hp : pc + 3 = pc2) (w1 : Cond.methodLinkNest own idx y host ∈ zv_nest) (w2 : Cond.static y ∈ zT) (w4 : Cond.initialized y.cls ∈ zT) (w5 : Cond.code y bytes maxL ret ∈ zT) (hrm : rm.cells = 0 ∧ rm.slots = 0) (hy : y.cls ≠ "java/lang/invoke/MethodHandle" ∧ y.cls ≠ "java/lang/invoke/VarHandle" ∧ (parseMethodDescriptor y.desc).map (fun d => d.parameters.length) = some n) (hR : rm.frames + 1 ≤ R.frames ∧ 8 + (maxL + 11) + rm.locals ≤ R.locals) (hn : As.length = n) (hst : As.reverse ++ rest = st) (hcat : (rest.map fun v => v.category).sum ≤ 8) (hlen : lv.length = nL)
    (kk : ∀ (v : Option Value) (w' : va_W), post v w' → zv k pc2 lv (v.toList ++ rest) w') : zv k pc lv st ws := by
  subst hp
  subst hst
  obtain ⟨p, l', e, R', s, m, args, below, meth, c, D', A, H0, cells, slots, Q⟩ := k
  obtain ⟨rfl, rfl, rfl, hx, hb, hml, hown, hts, hK, hA, hlk, hcl, hsl⟩ := K
  intro H locs ls hP hD hS hl
  have hG : GoodIn zT (Cond.code y bytes maxL ret :: zT) := by
    intro w hw
    have hm : w ∈ zT := by
      rcases List.mem_cons.mp hw with rfl | h <;> assumption
    exact ⟨hm, zT_good _ hm⟩
  refine zv_after hl hD hS hA (va_runSN (As := As) (rest := rest) ⟨hx, hb, hml, hown, hts⟩ (hM H.size) ⟨va_cnB n hts hG rfl hrm.1 hrm.2 (hK.2 _ w1) (hts _ w4) hy hR, hts _ w2, trivial⟩ ⟨zv_blind, fun U hU hW => ⟨rfl, by rw [hU], by rw [hU]; exact hP, hK.warm hW, hD.weaken (fun _ _ _ _ => trivial)⟩⟩ rfl hn (hl.1.trans hlen) rfl (lv_room hcat) hd ⟨hcl, hsl⟩) kk
theorem zv_mmax (K : zv_ok k l D R cc nL own ty) {x y : Int32} {idx : Nat} (pc2 : Nat) (hd : decode cc pc = .ok (.invokestatic idx, 3)) (hp : pc + 3 = pc2) (w1 : Cond.methodLink own idx Lib.Math.max.name ∈ zT) (w2 : Cond.static Lib.Math.max.name ∈ zT) (w3 : Cond.initialized "java/lang/Math" ∈ zT) (w4 : Cond.code Lib.Math.max.name Lib.Math.max.code 2 (some .int) ∈ zT) (hf : 1 ≤ R.frames) (hlo : (st.map fun v => v.category).sum + 13 ≤ R.locals) (hlen : lv.length = nL) (kk : zv k pc2 lv (.int (if x < y then y else x) :: st) ws) : zv k pc lv (.int y :: .int x :: st) ws := by
  subst hp
  obtain ⟨p, l', e, R', s, m, args, below, meth, c, D', A, H0, cells, slots, Q⟩ := k
  obtain ⟨rfl, rfl, rfl, hx, hb, hml, hown, hts, hK, hA, hlk, hcl, hsl⟩ := K
  intro H locs ls hP hD hS hl
  exact va_mmax hx hb (hml.trans (hlen.symm.trans hl.1.symm)) hown (hts _ w1) (hts _ w2) (hts _ w3) (hts _ w4) hf hlo hcl hsl hd (kk H locs ls hP hD hS hl)
theorem zv_mmin (K : zv_ok k l D R cc nL own ty) {x y : Int32} {idx : Nat} (pc2 : Nat) (hd : decode cc pc = .ok (.invokestatic idx, 3)) (hp : pc + 3 = pc2) (w1 : Cond.methodLink own idx Lib.Math.min.name ∈ zT) (w2 : Cond.static Lib.Math.min.name ∈ zT) (w3 : Cond.initialized "java/lang/Math" ∈ zT) (w4 : Cond.code Lib.Math.min.name Lib.Math.min.code 2 (some .int) ∈ zT) (hf : 1 ≤ R.frames) (hlo : (st.map fun v => v.category).sum + 13 ≤ R.locals) (hlen : lv.length = nL) (kk : zv k pc2 lv (.int (if y < x then y else x) :: st) ws) : zv k pc lv (.int y :: .int x :: st) ws := by
  subst hp
  obtain ⟨p, l', e, R', s, m, args, below, meth, c, D', A, H0, cells, slots, Q⟩ := k
  obtain ⟨rfl, rfl, rfl, hx, hb, hml, hown, hts, hK, hA, hlk, hcl, hsl⟩ := K
  intro H locs ls hP hD hS hl
  exact va_mmin hx hb (hml.trans (hlen.symm.trans hl.1.symm)) hown (hts _ w1) (hts _ w2) (hts _ w3) (hts _ w4) hf hlo hcl hsl hd (kk H locs ls hP hD hS hl)
theorem zv_copy (K : zv_ok k l D R cc nL own ty) {a0 a1 n0 n1 : Nat} {F G : Nat → Int32} {idx : Nat} {sp dp n : Int32} (q0 q1 pc2 : Nat) (ws2 : va_W) (hd : decode cc pc = .ok (.invokestatic idx, 3)) (hp : pc + 3 = pc2) (w1 : Cond.methodLink own idx arraycopyName ∈ zT) (w2 : Cond.native arraycopyName ∈ zT) (w3 : Cond.static arraycopyName ∈ zT) (w4 : Cond.initialized "java/lang/System" ∈ zT) (ha0 : ws[q0]? = some (a0, .inl (ty.1, n0, .inl F))) (ha1 : ws[q1]? = some (a1, .inl (ty.1, n1, .inl G))) (h1 : ¬ sp < 0) (h2 : ¬ dp < 0) (h3 : ¬ n < 0) (h4 : sp.toNatClampNeg + n.toNatClampNeg ≤ n0) (h5 : dp.toNatClampNeg + n.toNatClampNeg ≤ n1) (hf : 1 ≤ R.frames) (hlo : (st.map fun v => v.category).sum + (nativeFrameWords "java/lang/System" "arraycopy" 5 + 11) ≤ R.locals) (hlen : lv.length = nL) (hw2 : ws.set q1 (a1, .inl (ty.1, n1, .inl (va_cpy F G sp.toNatClampNeg dp.toNatClampNeg n.toNatClampNeg))) = ws2) (kk : zv k pc2 lv st ws2) : zv k pc lv (.int n :: .int dp :: .ref a1 :: .int sp :: .ref a0 :: st) ws := by
  subst hp
  subst hw2
  obtain ⟨p, l', e, R', s, m, args, below, meth, c, D', A, H0, cells, slots, Q⟩ := k
  obtain ⟨rfl, rfl, rfl, hx, hb, hml, hown, hts, hK, hA, hlk, hcl, hsl⟩ := K
  intro H locs ls hP hD hS hl
  exact va_copyi (ty := .int) hx hb (hml.trans (hlen.symm.trans hl.1.symm)) hown (hts _ w1) (hts _ w2) (hts _ w3) (hts _ w4) hK.1 hP hD hS q0 q1 0 0 ha0 ha1 rfl rfl rfl h1 h2 h3 h4 h5 (fun _ _ => rfl) hf hlo hd (fun H1 locs1 hP1 hD1 hS1 => kk H1 locs1 ls hP1 hD1 hS1 hl)
end ZV
