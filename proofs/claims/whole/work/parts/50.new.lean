/-! cells that come; constructors' contracts; a call with other cells beside -/
/-- the same place, with so many cells and slots spent -/
def zs (k : zKx) (c n : Nat) : zKx := match k with
  | (p, l, e, R, s, m, args, below, meth, c0, D, A, H0, _, _, Q) => (p, l, e, R, s, m, args, below, meth, c0, D, A, H0, c, n, Q)
def zn_ao (k : zKx) : Prop := match k with
  | (_, _, _, _, s, _, _, _, _, _, _, _, _, _, _, _) => va_AO RX1 s
def zn_in (k : zKx) : Prop := match k with
  | (_, _, _, _, _, _, _, _, meth, _, _, _, _, _, _, _) => meth.name = "<init>"
def zn_rt (k : zKx) (post : Option Value → va_W → Prop) (mc ms : Nat) : Prop := match k with
  | (_, _, _, _, s, _, args, below, meth, _, D, A, H0, _, _, Q) => meth.sig.returnType = none ∧ H0 = s.heap ∧ Q = MQ below (zv_qc D post A) args s mc ms A
def zn_pc (D : va_G) (ty : zTy) (av : List Value) (w : va_W) (sz : Nat) : Array Value → State → Prop := va_Pc av (fun U => U.heap.size = sz ∧ va_P D vwCl w U.heap ∧ (zv_K D ty U ∧ va_AO RX1 U) ∧ va_D (fun _ => True) w)
/-- a constructor's contract: mc cells, ms slots come -/
def zn_ct (l : Launch) (D : va_G) (ty : zTy) (y : MethodName) (cc : ByteArray) (maxL : Nat) (rm : Room) (mc ms : Nat) (av : List Value) (w : va_W) (post : Option Value → va_W → Prop) : Prop :=
  ∀ sz : Nat, Met l y (Cond.code y cc maxL none :: zT) rm (zn_pc D ty av w sz) (zv_qc D post (va_A w sz)) mc ms (va_A w sz)
theorem zn_blind {D : va_G} {ty : zTy} {av : List Value} {w : va_W} {sz : Nat} : FrameBlind (zn_pc D ty av w sz) := fun a U g mk q => by
  obtain ⟨q0, q1, qP, ⟨qK, qO⟩, qD⟩ := q
  exact ⟨q0, q1, qP, ⟨qK.call, va_AO.moved (u := U) (U := U.calling g mk a) (Vm.Alike.refl U.vm) qO⟩, qD⟩
theorem zn_open {l : Launch} {D : va_G} {ty : zTy} {y : MethodName} {cc : ByteArray} {maxL : Nat} {rm : Room} {mc ms : Nat} {av : List Value} {w : va_W} {post : Option Value → va_W → Prop} (hy : plainName y.cls = true) (hyi : y.name = "<init>") (lv : List (Option Value)) (h1 : zv_one av) (hn : av.length ≤ maxL) (hlv : av.map some ++ List.replicate (maxL - av.length) none = lv)
    (body : ∀ k : zKx, zv_ok (zs k 0 0) l D rm cc maxL y.cls ty → zn_ao k → zn_in k → zn_rt k post mc ms → zv (zs k 0 0) 0 lv [] w) : zn_ct l D ty y cc maxL rm mc ms av w post := by
  intro sz
  refine Met.ofW (cc := cc) (maxL := maxL) (ret := none) hy rfl ?_
  intro p e s m args below meth c s₁ B hml hv
  obtain ⟨rfl, hsz, hP, ⟨hK, hO⟩, hD0⟩ := hv
  have hts := atoms_spec (ws := Cond.code y cc maxL none :: zT) B.pre
  have hin : meth.name = y.name := (name_of_methodNamed B.named B.method).1
  subst hsz
  rw [lg_entry_eq]
  have hD := hD0.self (sz := s.heap.size)
  refine body (p, l, e, rm, s, m, av.toArray, below, meth, c, D, va_A w s.heap.size, s.heap, 0, 0, MQ below (zv_qc D post (va_A w s.heap.size)) av.toArray s mc ms (va_A w s.heap.size)) ⟨rfl, rfl, rfl, B.exec, B.bytes, hml, findClass_of_methodNamed B.named, fun x hx => hts x (List.mem_cons_of_mem _ hx), hK, fun q h => Or.inr h, B.notSynchronized, Nat.zero_le _, Nat.zero_le _⟩ hO (hin.trans hyi) ⟨B.returns, rfl, rfl⟩ s.heap [] _ hP hD va_S.rf ?_
  subst hlv
  exact zv_entry h1 hn
/-- cells beside each other: what a call leaves of those that it had not -/
theorem zn_join {A0 : Nat → Prop} {D : va_G} {X wc w1 : va_W} {H H1 : Heap} (hP : va_P D vwCl (X ++ wc) H) (hD : va_D A0 (X ++ wc)) (hk : ∀ q : Nat, q < H.size → ¬ va_A wc H.size q → H1[q]? = H[q]?) (hF : ∀ q, va_A wc H.size q → A0 q) (hP1 : va_P D vwCl w1 H1) (hD1 : va_D (va_A wc H.size) w1) : va_P D vwCl (X ++ w1) H1 ∧ va_D A0 (X ++ w1) := by
  have inX : ∀ (i : Nat) (q : Nat × va_E), X[i]? = some q → (X ++ wc)[i]? = some q := fun i q h => by
    rw [List.getElem?_append_left (List.getElem?_eq_some_iff.mp h).1]
    exact h
  have apart : ∀ (i : Nat) (q : Nat × va_E), X[i]? = some q → q.1 < H.size ∧ ¬ va_A wc H.size q.1 := by
    intro i q h
    have hl := (hP i q (inX i q h)).lt
    refine ⟨hl, fun z => ?_⟩
    rcases z with ⟨j, e, z⟩ | z
    · have h2 : (X ++ wc)[X.length + j]? = some (q.1, e) := by
        rw [List.getElem?_append_right (by omega), show X.length + j - X.length = j by omega]
        exact z
      have h3 := hD.1 i (X.length + j) q (q.1, e) (inX i q h) h2 rfl
      have h4 := (List.getElem?_eq_some_iff.mp h).1
      omega
    · omega
  have hPX : va_P D vwCl X H := fun i q h => hP i q (inX i q h)
  refine ⟨(hPX.kept (fun i q h => hk q.1 (apart i q h).1 (apart i q h).2)).app hP1, va_D.app ⟨fun i j p q h1 h2 h3 => hD.1 i j p q (inX i p h1) (inX j q h2) h3, fun i q h => hD.2 i q (inX i q h)⟩ (hD1.weaken (fun _ _ _ h => hF _ h)) (fun i j p q h1 h2 h3 => (apart i p h1).2 (by rw [h3]; exact hD1.2 j q h2))⟩
theorem zn_D {A : Nat → Prop} {X wc : va_W} (h : va_D A (X ++ wc)) : va_D A wc := by
  have inw : ∀ (i : Nat) (q : Nat × va_E), wc[i]? = some q → (X ++ wc)[X.length + i]? = some q := fun i q h => by
    rw [List.getElem?_append_right (by omega), show X.length + i - X.length = i by omega]
    exact h
  exact ⟨fun i j p q h1 h2 h3 => by have := h.1 _ _ p q (inw i p h1) (inw j q h2) h3; omega, fun i q h1 => h.2 _ q (inw i q h1)⟩
theorem zn_P {D : va_G} {X wc : va_W} {H : Heap} (h : va_P D vwCl (X ++ wc) H) : va_P D vwCl wc H := fun i q hq => h (X.length + i) q (by
  rw [List.getElem?_append_right (by omega), show X.length + i - X.length = i by omega]
  exact hq)
theorem zn_after {p : Program} {l : Launch} {e : Env} {R : Room} {s : State} {m : MethodId} {args : Array Value} {below : List Frame} {meth : Method} {c : Code} {H : Heap} {locs : List Loc} {cells slots mc ms pc : Nat} {lv : List (Option Value)} {post : Option Value → va_W → Prop} {Q : State → Prop} {D : va_G} {A : Nat → Prop} {H0 : Heap} {ls : Array Slot} {st0 rest : List Value} {a : Array Value} {X w : va_W} (hl : zv_l ls lv) (hP : va_P D vwCl (X ++ w) H) (hD : va_D A (X ++ w)) (hS : va_S A H0 H locs) (hA : ∀ q, H0.size ≤ q → A q)
    (hr : va_Run p l e R s m args below meth c H locs cells slots mc ms (F0 m pc ls st0) rest (zv_qc D post (va_A w H.size) a) (va_A w H.size))
    (kk : ∀ (v : Option Value) (w' : va_W), post v w' → zv (p, l, e, R, s, m, args, below, meth, c, D, A, H0, cells + mc, slots + ms, Q) (pc + 3) lv (v.toList ++ rest) (X ++ w')) : W p l e R s m args below meth c H locs cells slots Q (F0 m pc ls st0) := by
  intro T hT X0
  obtain ⟨v, st₀, t, T', L, h0, X', hL, e1, e2, ⟨⟨v', w', hv, hp, hP', hD'⟩, hz, hk⟩, st⟩ := hr T hT X0
  cases hv
  rw [h0] at hz hk
  have hF := zv_A (zn_D hD) hS hA
  obtain ⟨hP2, hD2⟩ := zn_join hP hD hk hF hP' hD'
  obtain ⟨t2, a1, b1⟩ := kk v w' hp T'.heap (locs ++ L) ls (by rw [e1]; exact hP2) hD2
    ⟨Nat.le_trans hS.1 (by rw [e1]; exact hz), fun q h1 h2 => by rw [e1, hk q (Nat.lt_of_lt_of_le h1 hS.1) (fun z => h2 (hF q z))]; exact hS.2.1 q h1 h2, fun q hq => by
      rcases List.mem_append.mp hq with h | h
      · exact hS.2.2 q h
      · exact hF _ (hL q h)⟩ hl T' rfl X'
  exact ⟨t2, st t2 a1, b1⟩
theorem zn_swD {A : Nat → Prop} {X Y : va_W} (h : va_D A (X ++ Y)) : va_D A (Y ++ X) := by
  have hX : va_D A X := ⟨fun i j p q h1 h2 h3 => h.1 i j p q (by rw [List.getElem?_append_left (List.getElem?_eq_some_iff.mp h1).1]; exact h1) (by rw [List.getElem?_append_left (List.getElem?_eq_some_iff.mp h2).1]; exact h2) h3, fun i q h1 => h.2 i q (by rw [List.getElem?_append_left (List.getElem?_eq_some_iff.mp h1).1]; exact h1)⟩
  refine va_D.app (zn_D h) hX (fun i j p q h1 h2 h3 => ?_)
  have h4 := h.1 (X.length + i) j p q (by rw [List.getElem?_append_right (by omega), show X.length + i - X.length = i by omega]; exact h1) (by rw [List.getElem?_append_left (List.getElem?_eq_some_iff.mp h2).1]; exact h2) h3
  have h5 := (List.getElem?_eq_some_iff.mp h2).1
  omega
theorem zn_swP {D : va_G} {X Y : va_W} {H : Heap} (h : va_P D vwCl (X ++ Y) H) : va_P D vwCl (Y ++ X) H := (zn_P h).app (fun i q h1 => h i q (by rw [List.getElem?_append_left (List.getElem?_eq_some_iff.mp h1).1]; exact h1))
section ZN
variable {k : zKx} {l : Launch} {D : va_G} {R : Room} {cc : ByteArray} {nL : Nat} {own : String} {ty : zTy} {pc : Nat} {lv : List (Option Value)} {st : List Value} {ws : va_W} {c n : Nat} {post : Option Value → va_W → Prop} {mc ms : Nat}
theorem zs_ok (K : zv_ok (zs k c n) l D R cc nL own ty) {c2 n2 : Nat} (h1 : c2 ≤ R.cells) (h2 : n2 ≤ R.slots) : zv_ok (zs k c2 n2) l D R cc nL own ty := by
  obtain ⟨p, l', e, R', s, m, args, below, meth, c0, D', A, H0, cells, slots, Q⟩ := k
  obtain ⟨rfl, rfl, rfl, hx, hb, hml, hown, hts, hK, hA, hlk, hcl, hsl⟩ := K
  exact ⟨rfl, rfl, rfl, hx, hb, hml, hown, hts, hK, hA, hlk, h1, h2⟩
theorem zn_swap {X Y : va_W} (kk : zv k pc lv st (Y ++ X)) : zv k pc lv st (X ++ Y) := by
  obtain ⟨p, l', e, R', s, m, args, below, meth, c0, D', A, H0, cells, slots, Q⟩ := k
  intro H locs ls hP hD hS hl
  exact kk H locs ls (zn_swP hP) (zn_swD hD) hS hl
/-- other cells in another order -/
theorem zn_sub {ws2 : va_W} (is : List Nat) (hn : va_nd is = true) (h1 : is.filterMap (fun i => ws[i]?) = ws2) (h2 : is.map (fun i => ws[i]?) = ws2.map some) (kk : zv k pc lv st ws2) : zv k pc lv st ws := by
  obtain ⟨p, l', e, R', s, m, args, below, meth, c0, D', A, H0, cells, slots, Q⟩ := k
  intro H locs ls hP hD hS hl
  exact kk H locs ls (hP.sub is h1) (hD.sub is hn h2) hS hl
theorem zn_obj (K : zv_ok k l D R cc nL own ty) {a idx : Nat} (pc2 : Nat) (hd : decode cc pc = .ok (.invokespecial idx, 3)) (hp : pc + 3 = pc2) (w1 : Cond.methodLink own idx objectInit ∈ zT) (hf : 1 ≤ R.frames) (hlo : (st.map fun v => v.category).sum + 12 ≤ R.locals) (hlen : lv.length = nL) (kk : zv k pc2 lv st ws) : zv k pc lv (.ref a :: st) ws := by
  subst hp
  obtain ⟨p, l', e, R', s, m, args, below, meth, c0, D', A, H0, cells, slots, Q⟩ := k
  obtain ⟨rfl, rfl, rfl, hx, hb, hml, hown, hts, hK, hA, hlk, hcl, hsl⟩ := K
  intro H locs ls hP hD hS hl
  refine W.objInit hx hb hown (hts _ w1) (hts _ zw_1_14) (hts _ zw_1_15) rfl (by rw [hml]; exact hl.1.trans hlen) rfl hd hf (by show 2 * 0 + _ + 12 ≤ _; omega) ?_
  exact W.eq (g2 := F0 m (pc + 3) ls st) rfl (kk H locs ls hP hD hS hl)
theorem zn_new (K : zv_ok (zs k c n) l D R cc nL own ty) {C : String} {T : u_T} {N ci idx : Nat} {t1 : Nat → FieldType} (fs : List Value) (c2 n2 pc2 : Nat) (hd : decode cc pc = .ok (.new idx, 3)) (hp : pc + 3 = pc2) (hin : ∀ w ∈ u_ws C T N, w ∈ zT) (hty : ∀ k, k < N → parseFieldDescriptor (T k).2.2.1 = some (t1 k)) (w1 : Cond.classLink own idx C ∈ zT) (w2 : Cond.instantiable C N ∈ zT) (w3 : Cond.initialized C ∈ zT) (hc : vwCl[ci]? = some (C, T, N)) (hfs : ∀ j, j < N → defaultValue (t1 j) = vp_V fs j) (hcc : c + 1 = c2) (hnn : n + N = n2) (hc2 : c2 ≤ R.cells) (hn2 : n2 ≤ R.slots) (kk : ∀ q : Nat, zv (zs k c2 n2) pc2 lv (.ref q :: st) (ws ++ [(q, .inr (ci, fs))])) : zv (zs k c n) pc lv st ws := by
  subst hp hcc hnn
  obtain ⟨p, l', e, R', s, m, args, below, meth, c0, D', A, H0, cells, slots, Q⟩ := k
  obtain ⟨rfl, rfl, rfl, hx, hb, hml, hown, hts, hK, hA, hlk, hcl, hsl⟩ := K
  intro H locs ls hP hD hS hl
  exact va_new hx hb hts hin t1 hty hown (hts _ w1) (hts _ w2) (hts _ w3) hK.1 hP hD hS hA hc hfs hc2 hn2 hd (fun q H1 hP1 hD1 hS1 => kk q H1 locs ls hP1 hD1 hS1 hl)
theorem zn_newi (K : zv_ok (zs k c n) l D R cc nL own ty) {x : Int32} {N : Nat} (c2 n2 pc2 : Nat) (hd : decode cc pc = .ok (.newarray .int, 2)) (hp : pc + 2 = pc2) (hx0 : ¬ x < 0) (hN : x.toNatClampNeg = N) (hby : N * componentBytes .int ≤ 536870912) (hcc : c + 1 = c2) (hnn : n + N = n2) (hc2 : c2 ≤ R.cells) (hn2 : n2 ≤ R.slots) (kk : ∀ q : Nat, zv (zs k c2 n2) pc2 lv (.ref q :: st) (ws ++ [(q, .inl (ty.1, N, .inl (fun _ => 0)))])) : zv (zs k c n) pc lv (.int x :: st) ws := by
  subst hp hcc hnn
  obtain ⟨p, l', e, R', s, m, args, below, meth, c0, D', A, H0, cells, slots, Q⟩ := k
  obtain ⟨rfl, rfl, rfl, hx, hb, hml, hown, hts, hK, hA, hlk, hcl, hsl⟩ := K
  intro H locs ls hP hD hS hl
  refine va_newa (atype := .int) hx hb (hts _ zw_1_43) (ty := .int) rfl hK.1 hP hD hS hA (a0 := (N, .inl (fun _ => 0))) (fun cA => rfl) hx0 hN hby hc2 hn2 hd (fun q cA H1 hK1 hP1 hD1 hS1 => ?_)
  have e1 : cA = ty.1 := Option.some.inj ((show s.vm.findClass ("[" ++ FieldType.int.toString) = some cA from (hK1.2 3 _ rfl).2).symm.trans (show s.vm.findClass ("[" ++ FieldType.int.toString) = some ty.1 from (hK.1.2 0 _ rfl).2))
  subst e1
  exact kk q H1 locs ls hP1 hD1 hS1 hl
theorem zn_newz (K : zv_ok (zs k c n) l D R cc nL own ty) {x : Int32} {N : Nat} (c2 n2 pc2 : Nat) (hd : decode cc pc = .ok (.newarray .boolean, 2)) (hp : pc + 2 = pc2) (hx0 : ¬ x < 0) (hN : x.toNatClampNeg = N) (hby : N * componentBytes .boolean ≤ 536870912) (hcc : c + 1 = c2) (hnn : n + N = n2) (hc2 : c2 ≤ R.cells) (hn2 : n2 ≤ R.slots) (kk : ∀ q : Nat, zv (zs k c2 n2) pc2 lv (.ref q :: st) (ws ++ [(q, .inl (ty.2.1, N, .inl (fun _ => 0)))])) : zv (zs k c n) pc lv (.int x :: st) ws := by
  subst hp hcc hnn
  obtain ⟨p, l', e, R', s, m, args, below, meth, c0, D', A, H0, cells, slots, Q⟩ := k
  obtain ⟨rfl, rfl, rfl, hx, hb, hml, hown, hts, hK, hA, hlk, hcl, hsl⟩ := K
  intro H locs ls hP hD hS hl
  refine va_newa (atype := .boolean) hx hb (hts _ zw_3_42) (ty := .boolean) rfl hK.1 hP hD hS hA (a0 := (N, .inl (fun _ => 0))) (fun cA => rfl) hx0 hN hby hc2 hn2 hd (fun q cA H1 hK1 hP1 hD1 hS1 => ?_)
  have e1 : cA = ty.2.1 := Option.some.inj ((show s.vm.findClass ("[" ++ FieldType.boolean.toString) = some cA from (hK1.2 3 _ rfl).2).symm.trans (show s.vm.findClass ("[" ++ FieldType.boolean.toString) = some ty.2.1 from (hK.1.2 1 _ rfl).2))
  subst e1
  exact kk q H1 locs ls hP1 hD1 hS1 hl
theorem zn_newq (K : zv_ok (zs k c n) l D R cc nL own ty) (hO : zn_ao k) {x : Int32} {N idx : Nat} (c2 n2 pc2 : Nat) (hd : decode cc pc = .ok (.anewarray idx, 3)) (hp : pc + 3 = pc2) (w1 : Cond.classLink own idx RX1 ∈ zT) (hx0 : ¬ x < 0) (hN : x.toNatClampNeg = N) (hby : N * 4 ≤ 536870912) (hcc : c + 1 = c2) (hnn : n + N = n2) (hc2 : c2 ≤ R.cells) (hn2 : n2 ≤ R.slots) (kk : ∀ q : Nat, zv (zs k c2 n2) pc2 lv (.ref q :: st) (ws ++ [(q, .inl (ty.2.2, N, .inr (.inr (.inr (.inr (fun _ => none))))))])) : zv (zs k c n) pc lv (.int x :: st) ws := by
  subst hp hcc hnn
  obtain ⟨p, l', e, R', s, m, args, below, meth, c0, D', A, H0, cells, slots, Q⟩ := k
  obtain ⟨rfl, rfl, rfl, hx, hb, hml, hown, hts, hK, hA, hlk, hcl, hsl⟩ := K
  intro H locs ls hP hD hS hl
  refine va_newq (C := RX1) hx hb hown (hts _ w1) hO hK.1 hP hD hS hA hx0 hN hby hc2 hn2 hd (fun q cA H1 hK1 hP1 hD1 hS1 => ?_)
  obtain ⟨-, -, -, -, -, f1⟩ := (hK1.2 3 _ rfl).2
  obtain ⟨-, -, -, -, -, f2⟩ := (hK.1.2 2 _ rfl).2
  have e1 : cA = ty.2.2 := Option.some.inj (f1.symm.trans f2)
  subst e1
  exact kk q H1 locs ls hP1 hD1 hS1 hl
theorem zn_astq (K : zv_ok k l D R cc nL own ty) {a N v : Nat} {vs : List Value} {F : Nat → Option Nat} {x : Int32} (q0 qk i pc2 : Nat) (ws2 : va_W) (hd : decode cc pc = .ok (.aastore, 1)) (hp : pc + 1 = pc2) (ha : ws[q0]? = some (a, .inl (ty.2.2, N, .inr (.inr (.inr (.inr F)))))) (hv : ws[qk]? = some (v, .inr (1, vs))) (hi : x = nI i) (hlt : i < N) (hn : N < 2 ^ 31) (hw2 : ws.set q0 (a, .inl (ty.2.2, N, .inr (.inr (.inr (.inr (va_up F i (some v))))))) = ws2) (kk : zv k pc2 lv st ws2) : zv k pc lv (.ref v :: .int x :: .ref a :: st) ws := by
  subst hp
  subst hw2
  obtain ⟨h1, h2⟩ := zv_ix hi hlt hn
  obtain ⟨p, l', e, R', s, m, args, below, meth, c0, D', A, H0, cells, slots, Q⟩ := k
  obtain ⟨rfl, rfl, rfl, hx, hb, hml, hown, hts, hK, hA, hlk, hcl, hsl⟩ := K
  intro H locs ls hP hD hS hl
  refine va_astq hx hb hK.1 hP hD hS q0 2 qk 1 (r := (RX1, TX1, 12)) ha rfl hv rfl h1 hd (fun H1 locs1 hP1 hD1 hS1 => ?_)
  rw [h2] at hP1 hD1
  exact kk H1 locs1 ls hP1 hD1 hS1 hl
theorem zn_putF (K : zv_ok k l D R cc nL own ty) (hI : zn_in k) {C : String} {T : u_T} {N ci idx : Nat} {a : Nat} {fs : List Value} {v : Value} (q0 f pc2 : Nat) (ws2 : va_W) {t0 : FieldType} {t1 : Nat → FieldType} (hd : decode cc pc = .ok (.putfield idx, 3)) (hp : pc + 3 = pc2) (hin : ∀ w ∈ u_ws C T N, w ∈ zT) (hty : ∀ k, k < N → parseFieldDescriptor (T k).2.2.1 = some (t1 k)) (hnm : ∀ a, a < N → ∀ b, b < N → a ≠ b → (T a).2.1 ≠ (T b).2.1) (he : ws[q0]? = some (a, .inr (ci, fs))) (hc : vwCl[ci]? = some (C, T, N)) (hf : f < N) (hlk2 : Cond.fieldLink own idx (T f).1 (T f).2.1 (T f).2.2.1 ∈ zT) (hfin : (T f).2.2.2 = true) (hdecl : (T f).1 = own) (ht0 : parseFieldDescriptor (T f).2.2.1 = some t0) (hn : narrow t0 v = v) (hfit : fits t0 v = true) (hfl : f < fs.length) (hw2 : ws.set q0 (a, .inr (ci, fs.set f v)) = ws2) (kk : zv k pc2 lv st ws2) : zv k pc lv (v :: .ref a :: st) ws := by
  subst hp
  subst hw2
  obtain ⟨p, l', e, R', s, m, args, below, meth, c0, D', A, H0, cells, slots, Q⟩ := k
  obtain ⟨rfl, rfl, rfl, hx, hb, hml, hown, hts, hK, hA, hlk, hcl, hsl⟩ := K
  intro H locs ls hP hD hS hl
  exact va_putF hx hb hts hin t1 hty hnm hown hK.1 hP hD hS q0 he hc f hf (hts _ hlk2) (fun _ h9 => h9) hfin hI hdecl ht0 hn hfit hfl hd (fun H1 locs1 hP1 hD1 hS1 => kk H1 locs1 ls hP1 hD1 hS1 hl)
theorem zn_vret (K : zv_ok (zs k c n) l D R cc nL own ty) (T : zn_rt k post mc ms) (hd : decode cc pc = .ok (.return_, 1)) (h1 : c ≤ mc) (h2 : n ≤ ms) (hp : post none ws) : zv (zs k c n) pc lv [] ws := by
  obtain ⟨p, l', e, R', s, m, args, below, meth, c0, D', A, H0, cells, slots, Q⟩ := k
  obtain ⟨rfl, rfl, rfl, hx, hb, hml, hown, hts, hK, hA, hlk, hcl, hsl⟩ := K
  obtain ⟨hr, rfl, rfl⟩ := T
  intro H locs ls hP hD hS hl
  refine W.widen (k := mc) (n := ms) h1 h2 ?_
  exact W.vret hx hb hr (fun t ht hW => ⟨⟨_, ws, rfl, hp, by rw [ht]; exact hP, hD⟩, hS.F ht⟩) hS.2.2 hd hlk
theorem zn_cI (K : zv_ok (zs k c n) l D R cc nL own ty) (hO : zn_ao k) {y : MethodName} {bytes : ByteArray} {maxL idx : Nat} {rm : Room} {b : Nat} {w : va_W} (c2 n2 pc2 : Nat) (hM : zn_ct l D ty y bytes maxL rm mc ms [.ref b] w post) (hd : decode cc pc = .ok (.invokespecial idx, 3)) (hp : pc + 3 = pc2) (w1 : Cond.methodLink own idx y ∈ zT) (w2 : Cond.instanceMethod y ∈ zT) (w4 : Cond.initialized y.cls ∈ zT) (w5 : Cond.code y bytes maxL none ∈ zT) (hrm : rm.cells = mc ∧ rm.slots = ms) (hyi : y.name = "<init>") (hy : y.cls ≠ "java/lang/invoke/MethodHandle" ∧ y.cls ≠ "java/lang/invoke/VarHandle" ∧ (parseMethodDescriptor y.desc).map (fun d => d.parameters.length) = some 0) (hR : rm.frames + 1 ≤ R.frames ∧ 8 + (maxL + 11) + rm.locals ≤ R.locals) (hcat : (st.map fun v => v.category).sum ≤ 8) (hlen : lv.length = nL) (hcc : c + mc = c2) (hnn : n + ms = n2) (hc2 : c2 ≤ R.cells) (hn2 : n2 ≤ R.slots)
    (kk : ∀ (v : Option Value) (w' : va_W), post v w' → zv (zs k c2 n2) pc2 lv (v.toList ++ st) (ws ++ w')) : zv (zs k c n) pc lv (.ref b :: st) (ws ++ w) := by
  subst hp hcc hnn
  obtain ⟨p, l', e, R', s, m, args, below, meth, c0, D', A, H0, cells, slots, Q⟩ := k
  obtain ⟨rfl, rfl, rfl, hx, hb, hml, hown, hts, hK, hA, hlk, hcl, hsl⟩ := K
  intro H locs ls hP hD hS hl
  have hG : GoodIn zT (Cond.code y bytes maxL none :: zT) := by
    intro w hw
    have hm : w ∈ zT := by
      rcases List.mem_cons.mp hw with rfl | h <;> assumption
    exact ⟨hm, zT_good _ hm⟩
  exact zn_after hl hP hD hS hA (va_runI (As := []) (rest := st) ⟨hx, hb, hml, hown, hts⟩ (hM H.size) (cwI 0 hts hG rfl hrm.1 hrm.2 (hts _ w4) (hts _ w1) (hts _ w2) hyi hy hR) ⟨zn_blind, fun U hU hW => ⟨rfl, by rw [hU], by rw [hU]; exact zn_P hP, ⟨hK.warm hW, va_AO.moved hW.alike hO⟩, (zn_D hD).weaken (fun _ _ _ _ => trivial)⟩⟩ rfl rfl (hl.1.trans hlen) rfl (lv_room hcat) hd ⟨hc2, hn2⟩) kk
theorem zn_cIN (K : zv_ok (zs k c n) l D R cc nL own ty) (hO : zn_ao k) {y : MethodName} {bytes : ByteArray} {maxL idx : Nat} {rm : Room} {b : Nat} {w : va_W} {host : String} (c2 n2 pc2 : Nat) (hM : zn_ct l D ty y bytes maxL rm mc ms [.ref b] w post) (hd : decode cc pc = .ok (.invokespecial idx, 3)) (hp : pc + 3 = pc2) (w1 : Cond.methodLinkNest own idx y host ∈ zv_nest) (w2 : Cond.instanceMethod y ∈ zT) (w4 : Cond.initialized y.cls ∈ zT) (w5 : Cond.code y bytes maxL none ∈ zT) (hrm : rm.cells = mc ∧ rm.slots = ms) (hyi : y.name = "<init>") (hy : y.cls ≠ "java/lang/invoke/MethodHandle" ∧ y.cls ≠ "java/lang/invoke/VarHandle" ∧ (parseMethodDescriptor y.desc).map (fun d => d.parameters.length) = some 0) (hR : rm.frames + 1 ≤ R.frames ∧ 8 + (maxL + 11) + rm.locals ≤ R.locals) (hcat : (st.map fun v => v.category).sum ≤ 8) (hlen : lv.length = nL) (hcc : c + mc = c2) (hnn : n + ms = n2) (hc2 : c2 ≤ R.cells) (hn2 : n2 ≤ R.slots)
    (kk : ∀ (v : Option Value) (w' : va_W), post v w' → zv (zs k c2 n2) pc2 lv (v.toList ++ st) (ws ++ w')) : zv (zs k c n) pc lv (.ref b :: st) (ws ++ w) := by
  subst hp hcc hnn
  obtain ⟨p, l', e, R', s, m, args, below, meth, c0, D', A, H0, cells, slots, Q⟩ := k
  obtain ⟨rfl, rfl, rfl, hx, hb, hml, hown, hts, hK, hA, hlk, hcl, hsl⟩ := K
  intro H locs ls hP hD hS hl
  have hG : GoodIn zT (Cond.code y bytes maxL none :: zT) := by
    intro w hw
    have hm : w ∈ zT := by
      rcases List.mem_cons.mp hw with rfl | h <;> assumption
    exact ⟨hm, zT_good _ hm⟩
  exact zn_after hl hP hD hS hA (va_runIN (As := []) (rest := st) ⟨hx, hb, hml, hown, hts⟩ (hM H.size) ⟨va_cnB 0 hts hG rfl hrm.1 hrm.2 (hK.2 _ w1) (hts _ w4) hy hR, hyi, hts _ w2⟩ ⟨zn_blind, fun U hU hW => ⟨rfl, by rw [hU], by rw [hU]; exact zn_P hP, ⟨hK.warm hW, va_AO.moved hW.alike hO⟩, (zn_D hD).weaken (fun _ _ _ _ => trivial)⟩⟩ rfl rfl (hl.1.trans hlen) rfl (lv_room hcat) hd ⟨hc2, hn2⟩) kk
/-- a call with other cells beside -/
theorem zn_cV (K : zv_ok k l D R cc nL own ty) {y : MethodName} {bytes : ByteArray} {maxL idx : Nat} {ret : Option FieldType} {rm : Room} {b ci q0 : Nat} {C : String} {T : u_T} {N : Nat} {fs : List Value} {As rest : List Value} {w : va_W} (np pc2 : Nat) (hM : zv_ct l D ty y bytes maxL ret rm (.ref b :: As) w post) (hd : decode cc pc = .ok (.invokevirtual idx, 3)) (hp : pc + 3 = pc2) (w1 : Cond.methodLink own idx y ∈ zT) (w2 : Cond.instanceMethod y ∈ zT) (w3 : Cond.selects C y y ∈ zT) (w4 : Cond.initialized C ∈ zT) (w5 : Cond.code y bytes maxL ret ∈ zT) (hrm : rm.cells = 0 ∧ rm.slots = 0) (hy : y.cls = C ∧ y.cls ≠ "java/lang/invoke/MethodHandle" ∧ y.cls ≠ "java/lang/invoke/VarHandle" ∧ (parseMethodDescriptor y.desc).map (fun d => d.parameters.length) = some np) (hR : rm.frames + 1 ≤ R.frames ∧ 8 + (maxL + 11) + rm.locals ≤ R.locals) (he : w[q0]? = some (b, .inr (ci, fs))) (hc : vwCl[ci]? = some (C, T, N)) (hn : As.length = np) (hst : As.reverse ++ .ref b :: rest = st) (hcat : (rest.map fun v => v.category).sum ≤ 8) (hlen : lv.length = nL)
    (kk : ∀ (v : Option Value) (w' : va_W), post v w' → zv k pc2 lv (v.toList ++ rest) (ws ++ w')) : zv k pc lv st (ws ++ w) := by
  subst hp
  subst hst
  obtain ⟨p, l', e, R', s, m, args, below, meth, c0, D', A, H0, cells, slots, Q⟩ := k
  obtain ⟨rfl, rfl, rfl, hx, hb, hml, hown, hts, hK, hA, hlk, hcl, hsl⟩ := K
  intro H locs ls hP hD hS hl
  have hG : GoodIn zT (wsV own idx C y (Cond.code y bytes maxL ret :: zT)) := by
    intro w hw
    have hm : w ∈ zT := by
      simp only [wsV, List.mem_append, List.mem_cons, List.not_mem_nil, or_false] at hw
      rcases hw with (rfl | rfl | rfl | rfl) | rfl | h <;> assumption
    exact ⟨hm, zT_good _ hm⟩
  exact zn_after hl hP hD hS hA (va_runV (As := As) (rest := rest) ⟨hx, hb, hml, hown, hts⟩ (hM H.size) (cwV np hts hG rfl hrm.1 hrm.2 hy hR) ⟨zv_blind, va_recv hK.1 (zn_P hP) hc he, fun U hU hW => ⟨rfl, by rw [hU], by rw [hU]; exact zn_P hP, hK.warm hW, (zn_D hD).weaken (fun _ _ _ _ => trivial)⟩⟩ rfl hn (hl.1.trans hlen) rfl (lv_room hcat) hd ⟨hcl, hsl⟩) kk
end ZN
