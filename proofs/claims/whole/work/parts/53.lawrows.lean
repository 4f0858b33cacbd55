/-! THE CLAIM OUT OF ONE WALK OF THE LAW'S BODY. Your part is whole_start (and what it stands on); all else here is the same for every law, but numbers. -/
def R_law : String := "VeinCourtLaw"
def lw_P (b : Addr) (xs : List Int32) (args : Array Value) (s : State) : Prop := args = #[.ref b] ∧ s.IntsAt b xs ∧ xs.length ≤ 3072 ∧ (Jvm.Cond.and given_1 narrow_1).before args s = true
def lw_Q (_ : Array Value) (s : State) (o : Outcome) (t : State) : Prop := o = .returned (some (.int 1)) ∧ Framed s o t [] 600000 7302250
def lw_Z (below : List Frame) (a : Array Value) (s : State) : State → Prop := fun t => ∃ o, t.status = .running ∧ Ended t below o ∧ lw_Q a s o t
/-- the law's own end, with 1 on the stack, nothing written that was there before, its room as the claim has it -/
theorem lw_ret {p : Program} {l : Launch} {e : Env} {s : State} {m : MethodId} {below : List Frame} {meth : Method} {c : Code} {b : Nat} (hx : p.tables.exec = Jvm.exec) (hb : c.code = code) (hr : meth.sig.returnType = ret) (hlocks : meth.locks = false) {pc : Nat} {H : Heap} {ls : Array Slot} (hdg : decode code pc = .ok (.ireturn, 1)) : W p l e room_1 s m #[Value.ref b] below meth c H [] 600000 7302250 (lw_Z below #[Value.ref b] s) (F0 m pc ls [.int 1]) := by
  intro T hT X
  obtain ⟨fs, hret, hrun, hended, hW, hframe⟩ := X.leave (v := some (.int 1)) (hlocks := hlocks) (fun h => by rw [hr] at h; cases h)
  have hmeth' : T.vm.method? m = some meth := X.method'
  refine ⟨T.setFrames fs, ?_, .returned (some (.int 1)), hrun, hended, rfl, ⟨_, rfl⟩, hW, hframe⟩
  jvm_step X.here [X.here.top, hx, hb, hdg, hmeth', hr, ret, narrow_b1]
  (try refine ⟨rfl, ?_⟩); (try refine ⟨rfl, ?_⟩)
  first | (intro acts; rw [hret _ acts rfl rfl rfl]) | rw [hret _ _ rfl rfl rfl]
  exact Steps.refl _
/-- what holds at the law's entry: the machine, the code, the tables' words (any of lw_tbl by 'hts w (by decide +kernel)'), the script of L ints xs at the cell b, what the Statement gives of the start (any of its parts by flat_of_before) -/
def lw_At (p : Program) (s : State) (m : MethodId) (meth : Method) (c : Code) (b L : Nat) (xs : Nat → Int32) : Prop :=
  p.tables.exec = Jvm.exec ∧ c.code = code ∧ meth.sig.returnType = ret ∧ c.maxLocals = 4 ∧ s.vm.findClass R_law = some m.cls ∧ (∀ w ∈ lw_tbl, w.before #[Value.ref b] s = true) ∧ va_X b L xs s s.heap ∧ b < s.heap.size ∧ meth.locks = false ∧ (Jvm.Cond.and given_1 narrow_1).before #[Value.ref b] s = true
/-! the tie at the start; the law's own rows -/
theorem Inv_0 : Inv σ0 τ0 := by
  have g0 : ∀ (t : zTab) (ord : Nat → Int32), gd t ord (fun _ => 0) 0 0 := fun t ord => ⟨by omega, rfl, Nat.zero_le _, fun i hi => absurd hi (by omega), fun i j h1 h2 => absurd h2 (by omega), fun f hf => absurd hf (by omega), fun f hf => absurd hf (by omega)⟩
  refine ⟨⟨fun _ => 0, 0, rfl, rfl, rfl, rfl, fun f hf => ⟨rfl, rfl, rfl, rfl, rfl, rfl, rfl, rfl, rfl, rfl, rfl⟩, g0 _ _⟩, ⟨rfl, rfl, rfl, by decide, by decide⟩, rfl, rfl, rfl, fun f hf => ⟨rfl, rfl, rfl, rfl, rfl, rfl, rfl, rfl, rfl, rfl, rfl⟩, fun _ => 0, 0, rfl, g0 _ _⟩
def zl_ok (k : zKx) (b L : Nat) (xs : Nat → Int32) : Prop := match k with
  | (_, _, _, _, s, _, _, _, _, _, _, A, H0, _, _, _) => va_X b L xs s H0 ∧ b < H0.size ∧ ¬ A b
def zl_rt (k : zKx) (b : Nat) : Prop := match k with
  | (_, _, _, R, s, _, args, below, meth, c, _, A, H0, _, _, Q) => R = room_1 ∧ c.code = code ∧ meth.sig.returnType = ret ∧ args = #[Value.ref b] ∧ Q = lw_Z below #[Value.ref b] s ∧ A = (fun q : Nat => s.heap.size ≤ q)
section ZL
variable {k : zKx} {l : Launch} {D : va_G} {R : Room} {cc : ByteArray} {nL : Nat} {own : String} {ty : zTy} {pc : Nat} {lv : List (Option Value)} {st : List Value} {ws : va_W} {b L : Nat} {xs : Nat → Int32} {c n : Nat}
theorem zl_ld (K : zv_ok k l D R cc nL own ty) (S : zl_ok k b L xs) {x : Int32} (i pc2 : Nat) (hd : decode cc pc = .ok (.iaload, 1)) (hp : pc + 1 = pc2) (hi : x = nI i) (hlt : i < L) (hL : L < 2 ^ 31) (kk : zv k pc2 lv (.int (xs i) :: st) ws) : zv k pc lv (.int x :: .ref b :: st) ws := by
  subst hp
  obtain ⟨h1, h2⟩ := zv_ix hi hlt hL
  obtain ⟨p, l', e, R', s, m, args, below, meth, c0, D', A, H0, cells, slots, Q⟩ := k
  obtain ⟨rfl, rfl, rfl, hx, hb, hml, hown, hts, hK, hA, hlk, hcl, hsl⟩ := K
  obtain ⟨hX, hbl, hbA⟩ := S
  intro H locs ls hP hD hS hl
  exact va_sld hx hb hX hbl hbA hS h1 hd (by rw [h2]; exact kk H locs ls hP hD hS hl)
theorem zl_len (K : zv_ok k l D R cc nL own ty) (S : zl_ok k b L xs) (pc2 : Nat) (hd : decode cc pc = .ok (.arraylength, 1)) (hp : pc + 1 = pc2) (kk : zv k pc2 lv (.int (nI L) :: st) ws) : zv k pc lv (.ref b :: st) ws := by
  subst hp
  obtain ⟨p, l', e, R', s, m, args, below, meth, c0, D', A, H0, cells, slots, Q⟩ := k
  obtain ⟨rfl, rfl, rfl, hx, hb, hml, hown, hts, hK, hA, hlk, hcl, hsl⟩ := K
  obtain ⟨hX, hbl, hbA⟩ := S
  intro H locs ls hP hD hS hl
  exact va_slen hx hb hX hbl hbA hS hd (kk H locs ls hP hD hS hl)
/-- the j-th int of the six, pushed -/
theorem zl_arg (K : zv_ok k l D R cc nL own ty) (S : zl_ok k b L xs) (hL : L ≤ 3072) {i : Nat} (hi : i + 6 ≤ L) {j : Int} (jn pc2 : Nat) (h0 : decode cc pc = .ok (.aload_n 0, 1)) (h1 : decode cc (pc + 1) = .ok (.iload_n 3, 1)) (h2 : decode cc (pc + 2) = .ok (.iconst j, 1)) (h3 : decode cc (pc + 3) = .ok (.iadd, 1)) (h4 : decode cc (pc + 4) = .ok (.iaload, 1)) (hp : pc + 5 = pc2) (hj : Int32.ofInt j = nI jn) (hjn : jn < 6) (e0 : lv[0]? = some (some (.ref b))) (e3 : lv[3]? = some (some (.int (nI i)))) (kk : zv k pc2 lv (.int (xs (i + jn)) :: st) ws) : zv k pc lv st ws := by
  subst hp
  refine zv_aload_n K (pc + 1) h0 rfl e0 ?_
  refine zv_iload_n K (pc + 2) h1 rfl e3 ?_
  refine zv_iconst K (nI jn) (pc + 3) h2 rfl hj ?_
  refine zv_iadd K (pc + 4) h3 rfl ?_
  exact zl_ld K S (i + jn) (pc + 5) h4 rfl (nI_add i jn) (by omega) (by omega) kk
theorem zl_ret (K : zv_ok (zs k c n) l D R cc nL own ty) (T : zl_rt k b) (hd : decode code pc = .ok (.ireturn, 1)) (h1 : c ≤ 600000) (h2 : n ≤ 7302250) : zv (zs k c n) pc lv [.int 1] ws := by
  obtain ⟨p, l', e, R', s, m, args, below, meth, c0, D', A, H0, cells, slots, Q⟩ := k
  obtain ⟨rfl, rfl, rfl, hx, hb, hml, hown, hts, hK, hA, hlk, hcl, hsl⟩ := K
  obtain ⟨rfl, hcode, hr, rfl, rfl, rfl⟩ := T
  intro H locs ls hP hD hS hl
  refine va_forget (fun q hq => hS.2.2 q hq) ?_
  refine W.widen (k := 600000) (n := 7302250) h1 h2 ?_
  exact lw_ret hx hcode hr hlk hd
theorem zn_cV1 {ws2 : va_W} {r : Value} (K : zv_ok k l D R cc nL own ty) {y : MethodName} {bytes : ByteArray} {maxL idx : Nat} {ret : Option FieldType} {rm : Room} {b ci q0 : Nat} {C : String} {T : u_T} {N : Nat} {fs : List Value} {As rest : List Value} {w : va_W} (np pc2 : Nat) (hM : zv_ct l D ty y bytes maxL ret rm (.ref b :: As) w (fun v w' => v = some r ∧ w' = ws2)) (hd : decode cc pc = .ok (.invokevirtual idx, 3)) (hp : pc + 3 = pc2) (w1 : Cond.methodLink own idx y ∈ zT) (w2 : Cond.instanceMethod y ∈ zT) (w3 : Cond.selects C y y ∈ zT) (w4 : Cond.initialized C ∈ zT) (w5 : Cond.code y bytes maxL ret ∈ zT) (hrm : rm.cells = 0 ∧ rm.slots = 0) (hy : y.cls = C ∧ y.cls ≠ "java/lang/invoke/MethodHandle" ∧ y.cls ≠ "java/lang/invoke/VarHandle" ∧ (parseMethodDescriptor y.desc).map (fun d => d.parameters.length) = some np) (hR : rm.frames + 1 ≤ R.frames ∧ 8 + (maxL + 11) + rm.locals ≤ R.locals) (he : w[q0]? = some (b, .inr (ci, fs))) (hc : vwCl[ci]? = some (C, T, N)) (hn : As.length = np) (hst : As.reverse ++ .ref b :: rest = st) (hcat : (rest.map fun v => v.category).sum ≤ 8) (hlen : lv.length = nL)
    (kk : zv k pc2 lv (r :: rest) (ws ++ ws2)) : zv k pc lv st (ws ++ w) := zn_cV K np pc2 hM hd hp w1 w2 w3 w4 w5 hrm hy hR he hc hn hst hcat hlen (fun v w2 h => by obtain ⟨rfl, rfl⟩ := h; exact kk)
end ZL
