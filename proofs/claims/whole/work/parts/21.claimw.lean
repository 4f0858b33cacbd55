/-! one claim's record: its slots r and its shares sh -/
def zCl (σ : zC) (i : Nat) (r sh : Nat → Int32) : zC := (fun j => if j = i + 11 then r else σ.1 j, fun j => if j = i + 31 then sh else σ.2 j)
theorem zCl_self (σ : zC) (i : Nat) : zCl σ i (σ.1 (i + 11)) (σ.2 (i + 31)) = σ := by
  unfold zCl
  refine Prod.ext (funext fun j => ?_) (funext fun j => ?_)
  · show (if j = i + 11 then σ.1 (i + 11) else σ.1 j) = σ.1 j
    by_cases h : j = i + 11
    · subst h; simp
    · simp [h]
  · show (if j = i + 31 then σ.2 (i + 31) else σ.2 j) = σ.2 j
    by_cases h : j = i + 31
    · subst h; simp
    · simp [h]
theorem zCl_1 (σ : zC) (i : Nat) (r sh : Nat → Int32) : (zCl σ i r sh).1 (i + 11) = r := by simp [zCl]
theorem zCl_2 (σ : zC) (i : Nat) (r sh : Nat → Int32) : (zCl σ i r sh).2 (i + 31) = sh := by simp [zCl]
theorem zCl_1n (σ : zC) {i j : Nat} (r sh : Nat → Int32) (h : j ≠ i + 11) : (zCl σ i r sh).1 j = σ.1 j := by simp [zCl, h]
theorem zCl_2n (σ : zC) {i j : Nat} (r sh : Nat → Int32) (h : j ≠ i + 31) : (zCl σ i r sh).2 j = σ.2 j := by simp [zCl, h]
theorem zCl_Cl (σ : zC) (i : Nat) (r sh r2 sh2 : Nat → Int32) : zCl (zCl σ i r sh) i r2 sh2 = zCl σ i r2 sh2 := by
  unfold zCl
  refine Prod.ext (funext fun j => ?_) (funext fun j => ?_)
  · show (if j = i + 11 then r2 else if j = i + 11 then r else σ.1 j) = if j = i + 11 then r2 else σ.1 j
    by_cases h : j = i + 11 <;> simp [h]
  · show (if j = i + 31 then sh2 else if j = i + 31 then sh else σ.2 j) = if j = i + 31 then sh2 else σ.2 j
    by_cases h : j = i + 31 <;> simp [h]
theorem zg_Cl (σ : zC) (i : Nat) (r sh : Nat → Int32) (f c : Nat) : zg (zCl σ i r sh) f c = zg σ f c := by unfold zg; rw [zCl_2n σ r sh (by omega)]
theorem zCl_O (σ : zC) (i : Nat) (r sh : Nat → Int32) (f : Nat) (v : Int32) : zO (zCl σ i r sh) (i + 11) f v = zCl σ i (upd r f v) sh := by
  unfold zO
  refine Prod.ext (funext fun j => ?_) rfl
  show zu (zCl σ i r sh).1 (i + 11) f v j = if j = i + 11 then upd r f v else σ.1 j
  by_cases h : j = i + 11
  · subst h; simp [zu, zCl]
  · simp [zu, zCl, h]
theorem zCl_F (σ : zC) (i : Nat) (r sh : Nat → Int32) (f : Nat) (v : Int32) : zF (zCl σ i r sh) (i + 31) f v = zCl σ i r (upd sh f v) := by
  unfold zF
  refine Prod.ext rfl (funext fun j => ?_)
  show zu (zCl σ i r sh).2 (i + 31) f v j = if j = i + 31 then upd sh f v else σ.2 j
  by_cases h : j = i + 31
  · subst h; simp [zu, zCl]
  · simp [zu, zCl, h]
def zkl (a : Nat → Nat) (i : Nat) (r : Nat → Int32) : List Value := [.int (r 0), .int (r 1), .int (r 2), .int (r 3), .int (r 4), .int (r 5), .int (r 6), .int (r 7), .int (r 8), .int (r 9), .int (r 10), .ref (a (i + 31))]
theorem zkl_eq (a : Nat → Nat) (σ : zC) (i : Nat) (r sh : Nat → Int32) : zcl a (zCl σ i r sh) i = zkl a i r := by unfold zcl zkl; rw [zCl_1]
theorem zk_at {a : Nat → Nat} {ty : zTy} {σ : zC} {i : Nat} {r sh : Nat → Int32} (hi : i < 20) : (zc a ty (zCl σ i r sh))[i + 11]? = some (a (i + 11), .inr (1, zkl a i r)) := by rw [zc_cl hi, zkl_eq]
theorem zk_sat {a : Nat → Nat} {ty : zTy} {σ : zC} {i : Nat} {r sh : Nat → Int32} (hi : i < 20) : (zc a ty (zCl σ i r sh))[i + 31]? = some (a (i + 31), .inl (ty.1, 10, .inl sh)) := by rw [zc_sh hi, zCl_2]
theorem zCl_O0 {a : Nat → Nat} {ty : zTy} {i : Nat} (σ : zC) (r sh : Nat → Int32) (v : Int32) (hi : i < 20) : (zc a ty (zCl σ i r sh)).set (i + 11) (a (i + 11), .inr (1, (zkl a i r).set 0 (.int v))) = zc a ty (zCl σ i (upd r 0 v) sh) := by rw [← zCl_O, ← zc_Oc0 hi, zkl_eq]
theorem zCl_O1 {a : Nat → Nat} {ty : zTy} {i : Nat} (σ : zC) (r sh : Nat → Int32) (v : Int32) (hi : i < 20) : (zc a ty (zCl σ i r sh)).set (i + 11) (a (i + 11), .inr (1, (zkl a i r).set 1 (.int v))) = zc a ty (zCl σ i (upd r 1 v) sh) := by rw [← zCl_O, ← zc_Oc1 hi, zkl_eq]
theorem zCl_O2 {a : Nat → Nat} {ty : zTy} {i : Nat} (σ : zC) (r sh : Nat → Int32) (v : Int32) (hi : i < 20) : (zc a ty (zCl σ i r sh)).set (i + 11) (a (i + 11), .inr (1, (zkl a i r).set 2 (.int v))) = zc a ty (zCl σ i (upd r 2 v) sh) := by rw [← zCl_O, ← zc_Oc2 hi, zkl_eq]
theorem zCl_O3 {a : Nat → Nat} {ty : zTy} {i : Nat} (σ : zC) (r sh : Nat → Int32) (v : Int32) (hi : i < 20) : (zc a ty (zCl σ i r sh)).set (i + 11) (a (i + 11), .inr (1, (zkl a i r).set 3 (.int v))) = zc a ty (zCl σ i (upd r 3 v) sh) := by rw [← zCl_O, ← zc_Oc3 hi, zkl_eq]
theorem zCl_O4 {a : Nat → Nat} {ty : zTy} {i : Nat} (σ : zC) (r sh : Nat → Int32) (v : Int32) (hi : i < 20) : (zc a ty (zCl σ i r sh)).set (i + 11) (a (i + 11), .inr (1, (zkl a i r).set 4 (.int v))) = zc a ty (zCl σ i (upd r 4 v) sh) := by rw [← zCl_O, ← zc_Oc4 hi, zkl_eq]
theorem zCl_O5 {a : Nat → Nat} {ty : zTy} {i : Nat} (σ : zC) (r sh : Nat → Int32) (v : Int32) (hi : i < 20) : (zc a ty (zCl σ i r sh)).set (i + 11) (a (i + 11), .inr (1, (zkl a i r).set 5 (.int v))) = zc a ty (zCl σ i (upd r 5 v) sh) := by rw [← zCl_O, ← zc_Oc5 hi, zkl_eq]
theorem zCl_O6 {a : Nat → Nat} {ty : zTy} {i : Nat} (σ : zC) (r sh : Nat → Int32) (v : Int32) (hi : i < 20) : (zc a ty (zCl σ i r sh)).set (i + 11) (a (i + 11), .inr (1, (zkl a i r).set 6 (.int v))) = zc a ty (zCl σ i (upd r 6 v) sh) := by rw [← zCl_O, ← zc_Oc6 hi, zkl_eq]
theorem zCl_O7 {a : Nat → Nat} {ty : zTy} {i : Nat} (σ : zC) (r sh : Nat → Int32) (v : Int32) (hi : i < 20) : (zc a ty (zCl σ i r sh)).set (i + 11) (a (i + 11), .inr (1, (zkl a i r).set 7 (.int v))) = zc a ty (zCl σ i (upd r 7 v) sh) := by rw [← zCl_O, ← zc_Oc7 hi, zkl_eq]
theorem zCl_O8 {a : Nat → Nat} {ty : zTy} {i : Nat} (σ : zC) (r sh : Nat → Int32) (v : Int32) (hi : i < 20) : (zc a ty (zCl σ i r sh)).set (i + 11) (a (i + 11), .inr (1, (zkl a i r).set 8 (.int v))) = zc a ty (zCl σ i (upd r 8 v) sh) := by rw [← zCl_O, ← zc_Oc8 hi, zkl_eq]
theorem zCl_O9 {a : Nat → Nat} {ty : zTy} {i : Nat} (σ : zC) (r sh : Nat → Int32) (v : Int32) (hi : i < 20) : (zc a ty (zCl σ i r sh)).set (i + 11) (a (i + 11), .inr (1, (zkl a i r).set 9 (.int v))) = zc a ty (zCl σ i (upd r 9 v) sh) := by rw [← zCl_O, ← zc_Oc9 hi, zkl_eq]
theorem zCl_O10 {a : Nat → Nat} {ty : zTy} {i : Nat} (σ : zC) (r sh : Nat → Int32) (v : Int32) (hi : i < 20) : (zc a ty (zCl σ i r sh)).set (i + 11) (a (i + 11), .inr (1, (zkl a i r).set 10 (.int v))) = zc a ty (zCl σ i (upd r 10 v) sh) := by rw [← zCl_O, ← zc_Oc10 hi, zkl_eq]
section ZK
variable {k : zKx} {l : Launch} {D : va_G} {R : Room} {cc : ByteArray} {nL : Nat} {own : String} {ty : zTy} {pc : Nat} {lv : List (Option Value)} {st : List Value} {a : Nat → Nat} {σ : zC} {i : Nat} {r sh : Nat → Int32}
theorem zk_get (K : zv_ok k l D R cc nL own ty) {idx : Nat} {v : Value} (hi : i < 20) (f pc2 : Nat) (hd : decode cc pc = .ok (.getfield idx, 3)) (hp : pc + 3 = pc2) (hf : f < 12) (hlk2 : Cond.fieldLink own idx (TX1 f).1 (TX1 f).2.1 (TX1 f).2.2.1 ∈ zT) (hv : (zkl a i r)[f]? = some v) (kk : zv k pc2 lv (v :: st) (zc a ty (zCl σ i r sh))) : zv k pc lv (.ref (a (i + 11)) :: st) (zc a ty (zCl σ i r sh)) := zv_get K (i + 11) f pc2 hd hp zy_X1 (zk_at hi) rfl hf hlk2 hv kk
theorem zk_getN (K : zv_ok k l D R cc nL own ty) {idx : Nat} {v : Value} {host : String} (hi : i < 20) (f pc2 : Nat) (hd : decode cc pc = .ok (.getfield idx, 3)) (hp : pc + 3 = pc2) (hf : f < 12) (hlk2 : Cond.fieldLinkNest own idx (TX1 f).1 (TX1 f).2.1 (TX1 f).2.2.1 host ∈ zv_nest) (hv : (zkl a i r)[f]? = some v) (kk : zv k pc2 lv (v :: st) (zc a ty (zCl σ i r sh))) : zv k pc lv (.ref (a (i + 11)) :: st) (zc a ty (zCl σ i r sh)) := zv_getN K (i + 11) f pc2 hd hp zy_X1 (zk_at hi) rfl hf hlk2 hv kk
theorem zk_put (K : zv_ok k l D R cc nL own ty) {idx : Nat} {v : Int32} {t0 : FieldType} (hi : i < 20) (f pc2 : Nat) (hd : decode cc pc = .ok (.putfield idx, 3)) (hp : pc + 3 = pc2) (hf : f < 12) (hlk2 : Cond.fieldLink own idx (TX1 f).1 (TX1 f).2.1 (TX1 f).2.2.1 ∈ zT) (hfin : (TX1 f).2.2.2 = false) (ht0 : parseFieldDescriptor (TX1 f).2.2.1 = some t0) (hn : narrow t0 (.int v) = .int v) (hfit : fits t0 (.int v) = true) (hw : ∀ (hi : i < 20), (zc a ty (zCl σ i r sh)).set (i + 11) (a (i + 11), .inr (1, (zkl a i r).set f (.int v))) = zc a ty (zCl σ i (upd r f v) sh)) (kk : zv k pc2 lv st (zc a ty (zCl σ i (upd r f v) sh))) : zv k pc lv (.int v :: .ref (a (i + 11)) :: st) (zc a ty (zCl σ i r sh)) := zv_put K (i + 11) f pc2 _ hd hp zy_X1 tyX1_ok nmX1 (zk_at hi) rfl hf hlk2 hfin ht0 hn hfit hf (hw hi) kk
theorem zk_ald (K : zv_ok k l D R cc nL own ty) {x : Int32} (hi : i < 20) (q pc2 : Nat) (hd : decode cc pc = .ok (.iaload, 1)) (hp : pc + 1 = pc2) (hx : x = nI q) (hq : q < 10) (kk : zv k pc2 lv (.int (sh q) :: st) (zc a ty (zCl σ i r sh))) : zv k pc lv (.int x :: .ref (a (i + 31)) :: st) (zc a ty (zCl σ i r sh)) := zv_iald K (i + 31) q pc2 hd hp (zk_sat hi) hx hq (by decide) kk
theorem zk_ast (K : zv_ok k l D R cc nL own ty) {x z : Int32} (hi : i < 20) (q pc2 : Nat) (hd : decode cc pc = .ok (.iastore, 1)) (hp : pc + 1 = pc2) (hx : x = nI q) (hq : q < 10) (kk : zv k pc2 lv st (zc a ty (zCl σ i r (upd sh q z)))) : zv k pc lv (.int z :: .int x :: .ref (a (i + 31)) :: st) (zc a ty (zCl σ i r sh)) := zv_iast K (i + 31) q pc2 _ hd hp (zk_sat hi) hx hq (by decide) (by rw [← zCl_F, ← zc_Fs hi, zCl_2]) kk
end ZK
/-! what the claim's methods do to a record -/
def rPass (r : Nat → Int32) (m d : Int32) : Nat → Int32 := upd (upd (upd r 5 m) 6 d) 7 0
def sPass (sh : Nat → Int32) (m : Int32) : Nat → Int32 := fun q => if q < 10 then (if nI q = m then 24 else 0) else sh q
def sPassN (n : Nat) (sh : Nat → Int32) (m : Int32) : Nat → Int32 := fun q => if q < n then (if nI q = m then 24 else 0) else sh q
theorem sPassN_s (n : Nat) (sh : Nat → Int32) (m v : Int32) (hv : v = if nI n = m then 24 else 0) : upd (sPassN n sh m) n v = sPassN (n + 1) sh m := by
  funext q
  unfold upd sPassN
  by_cases h : q = n
  · subst h; rw [if_pos rfl, if_pos (Nat.lt_succ_self _), hv]
  · rw [if_neg h]
    by_cases h2 : q < n
    · simp only [if_pos h2, if_pos (show q < n + 1 by omega)]
    · simp only [if_neg h2, if_neg (show ¬ q < n + 1 by omega)]
theorem sPassN_0 (sh : Nat → Int32) (m : Int32) : sPassN 0 sh m = sh := by funext q; simp [sPassN]
def rAdd (r : Nat → Int32) (m d : Int32) : Nat → Int32 := upd (upd (upd (if r 7 = 0 then upd r 9 d else r) 8 m) 10 d) 7 (r 7 + 1)
def rStale (r : Nat → Int32) (m d : Int32) : Nat → Int32 := if ¬ m = r 8 ∨ 10 < d - r 9 then upd r 7 0 else r
/-- a nick: the record, and whether the claim passes -/
def rNick (r : Nat → Int32) (m d idle : Int32) : Nat → Int32 :=
  if m = r 5 ∨ ¬ idle < d - r 6 then r
  else if 0 < rStale r m d 7 ∧ rStale r m d 10 = d then rStale r m d
  else if 3 ≤ rAdd (rStale r m d) m d 7 then rPass (rAdd (rStale r m d) m d) m d
  else rAdd (rStale r m d) m d
def sNick (r sh : Nat → Int32) (m d idle : Int32) : Nat → Int32 :=
  if m = r 5 ∨ ¬ idle < d - r 6 then sh
  else if 0 < rStale r m d 7 ∧ rStale r m d 10 = d then sh
  else if 3 ≤ rAdd (rStale r m d) m d 7 then sPass sh m
  else sh
def sMove (sh : Nat → Int32) (p q : Nat) (n : Int32) : Nat → Int32 := if sh p < n then sh else upd (upd sh p (sh p - n)) q (upd sh p (sh p - n) q + n)
def rOver (r : Nat → Int32) (vn ft : Int32) : Prop := ¬ r 0 = 0 ∧ r 2 = vn ∧ r 3 ≤ ft ∧ ft ≤ r 4
def rBegin (σ : zC) (r : Nat → Int32) (f : Nat) : Nat → Int32 := rPass (upd (upd (upd (upd (upd r 0 1) 1 (nI f)) 2 (zg σ f 4)) 3 (zg σ f 6)) 4 (zg σ f 7)) (zg σ f 5) (zg σ f 1)
/-- a fact of a claim that stands -/
def rTurn (σ : zC) (r : Nat → Int32) (f : Nat) (idle : Int32) : Nat → Int32 :=
  if zg σ f 0 = 1 then upd (upd r 6 (zg σ f 1)) 7 0
  else if zg σ f 0 = 2 then rNick r (zg σ f 5) (zg σ f 1) idle
  else if zg σ f 0 = 3 then upd r 0 0
  else if zg σ f 0 = 4 then upd (upd r 3 (zg σ f 6)) 4 (zg σ f 7)
  else r
def sTurn (σ : zC) (r sh : Nat → Int32) (f : Nat) (idle : Int32) : Nat → Int32 :=
  if zg σ f 0 = 2 then sNick r sh (zg σ f 5) (zg σ f 1) idle
  else if zg σ f 0 = 5 then sMove sh (zg σ f 5).toNatClampNeg (zg σ f 10).toNatClampNeg (zg σ f 8)
  else sh
