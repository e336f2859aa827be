/-! Assembler: the same upon lists. -/
abbrev PA := Int32 × List Int32 × Nat × Nat × Int32 × List (Nat × Int32) × List (Int32 × Nat) × Int32
abbrev mkA (how : Int32) (ws : List Int32) (n blk : Nat) (ld : Int32) (fx : List (Nat × Int32)) (lb : List (Int32 × Nat)) (own : Int32) : PA := (how, ws, n, blk, ld, fx, lb, own)
abbrev PA.how (a : PA) : Int32 := a.1
abbrev PA.ws (a : PA) : List Int32 := a.2.1
abbrev PA.n (a : PA) : Nat := a.2.2.1
abbrev PA.blk (a : PA) : Nat := a.2.2.2.1
abbrev PA.ld (a : PA) : Int32 := a.2.2.2.2.1
abbrev PA.fx (a : PA) : List (Nat × Int32) := a.2.2.2.2.2.1
abbrev PA.lb (a : PA) : List (Int32 × Nat) := a.2.2.2.2.2.2.1
abbrev PA.own (a : PA) : Int32 := a.2.2.2.2.2.2.2
abbrev PA.sld (a : PA) (x : Int32) : PA := mkA a.how a.ws a.n a.blk x a.fx a.lb a.own
abbrev PA.sbs (a : PA) : PA := mkA a.how a.ws a.n a.n a.ld a.fx a.lb a.own
abbrev PA.swn (a : PA) (ws : List Int32) (n : Nat) : PA := mkA a.how ws n a.blk a.ld a.fx a.lb a.own
abbrev PA.slb (a : PA) (l : Int32) : PA := mkA a.how a.ws a.n a.blk a.ld a.fx ((l, a.n) :: a.lb) a.own
def lkL : List (Int32 × Nat) → Int32 → Option Nat
  | [], _ => none
  | (k, v) :: r, l => if k = l then some v else lkL r l
def wat (a : PA) (k : Nat) : Int32 := a.ws.getD k 0
def pLay (a : PA) (w : Int32) : PA := if a.n < 262144 then a.swn (w :: a.ws) (a.n + 1) else a
def pSlot (a : PA) : PA := (pLay a 0).sld 0
def pAh (a : PA) (k : Nat) : Int32 := if a.n < a.blk + (k + 1) then 0 else wat a k
def pCfl (a : PA) : Int32 := if a.blk + 2 ≤ a.n then (if wat a 1 = 0 then 0 else if ldI (wat a 1) = 0 then (if stI (wat a 1) = 0 then (if tchI (wat a 1) (asB (wat a 0)) = 0 then (if wrI (wat a 1) = asA (wat a 0) then 0 else if ldI (pAh a 2) = 0 then 1 else if tchI (wat a 0) (asB (pAh a 2)) = 0 then 1 else 0) else 0) else 0) else 0) else 0
def pCfB (a : PA) (w : Int32) : Int32 := if ldI (pAh a 1) = 0 then 1 else if tchI w (asB (pAh a 1)) = 0 then 1 else 0
def pCfA (a : PA) (w : Int32) : Int32 := if asK w = 3 then (if tchI (wat a 0) 31 = 0 then pCfB a w else 0) else pCfB a w
def pCfp (a : PA) (w : Int32) : Int32 := if a.blk + 1 ≤ a.n then (if wat a 0 = 0 then 0 else if ldI (wat a 0) = 0 then (if wrI (wat a 0) = 0 then pCfA a w else if tchI w (wrI (wat a 0)) = 0 then pCfA a w else 0) else 0) else 0
def swL : List Int32 → List Int32
  | x :: y :: r => y :: x :: r
  | r => r
def pSwp (a : PA) : PA := (a.swn (swL a.ws) a.n).sld 0
def pEmA (a : PA) (w : Int32) : PA := if a.ld = 0 then a else if tchI w a.ld = 0 then a else if a.how = 2 then (if pCfl a = 0 then pSlot a else pSwp a) else pSlot a
def pEmB (a : PA) (w : Int32) : PA := if ldI w = 0 then (pLay a w).sld 0 else if (pLay a w).how = 2 then (pLay a w).sld (asB w) else if asB w = 0 then (pLay a w).sld (asB w) else pSlot ((pLay a w).sld (asB w))
def pEm (a : PA) (w : Int32) : PA := pEmB (pEmA a w) w
def pLpA (a : PA) (w : Int32) : PA := if a.ld = 0 then a else if tchI w a.ld = 0 then a else pSlot a
def pFx (a : PA) (l : Int32) : PA := mkA a.how a.ws a.n a.blk a.ld ((a.n, l) :: a.fx) a.lb a.own
def pFxF (a : PA) (l : Int32) : PA := if l < 0 then a else pFx a l
def pLpE (a : PA) (l w f : Int32) : PA := ((pLay (pLay (pFxF a l) w) f).sld 0).sbs
def pLpB (a : PA) (w l : Int32) : PA := if a.how = 2 then (if pCfp a w = 0 then pLpE a l w 0 else pLpE (a.swn a.ws.tail (a.n - 1)) l w (wat a 0)) else pLpE a l w 0
def pLp (a : PA) (w l : Int32) : PA := pLpB (pLpA a w) w l
def pLdS (a : PA) : PA := if a.ld = 0 then a else pSlot a
def pLd (a : PA) (l : Int32) : PA := ((pLdS a).slb l).sbs
def pLb (a : PA) : PA := if (66047 : Int32) ≤ a.own then a else mkA a.how a.ws a.n a.blk a.ld a.fx a.lb (a.own + 1)
def pSc (a : PA) (t l : Int32) : PA := (pEm (pFx (pEm (pFx (pLdS a) l) (scW0 t)) l) (scW1 t)).sbs
def pSt (a : PA) : PA := (pLay (pLdS a) 12).sbs
def pOp (w : Int32) : PA := mkA w [] 0 0 0 [] [] 65574
def pSeB (a : PA) (t n : Int32) : PA := if n &&& 65535 = 0 then pEm a (wLui t n) else pEm (pEm a (wLui t n)) (wOri t n)
def pSe (a : PA) (t n : Int32) : PA := if n < (-32768) then pSeB a t n else if 32767 < n then pSeB a t n else pEm a (wSet t n)
def AS (S0 S : xS) (a : PA) : Prop :=
  (S.1 9 8 = a.how) ∧
  (S.1 9 5 = nI (19840 + a.n)) ∧
  (a.ws.length = a.n) ∧
  (a.n ≤ 262144) ∧
  (S.1 9 6 = nI (19840 + a.blk)) ∧
  (a.blk ≤ 262144) ∧
  (S.1 9 7 = a.ld) ∧
  (S.1 9 4 = nI a.fx.length) ∧
  (a.fx.length ≤ 65536 → ∀ i p l, a.fx[i]? = some (p, l) → S.1 64 (a.fx.length - 1 - i) = nI (19840 + p) ∧ S.1 65 (a.fx.length - 1 - i) = l) ∧
  (∀ l v, lkL a.lb l = some v → ¬ l < 0 → ¬ nI 66048 ≤ l → S.1 63 l.toNatClampNeg = nI (19840 + v)) ∧
  (∀ i w, a.ws[i]? = some w → S.1 14 (19840 + (a.n - 1 - i)) = w) ∧
  (S.1 9 9 = a.own) ∧
  (∀ b j, b ≠ 9 → b ≠ 63 → b ≠ 64 → b ≠ 65 → b ≠ 14 → S.1 b j = S0.1 b j) ∧
  (∀ j, j < 19840 → S.1 14 j = S0.1 14 j) ∧
  (S.2 = S0.2)
theorem AS.mk {S0 S : xS} {a : PA} (hw : S.1 9 8 = a.how) (hr : S.1 9 5 = nI (19840 + a.n)) (ln : a.ws.length = a.n) (cp : a.n ≤ 262144) (bs : S.1 9 6 = nI (19840 + a.blk)) (bc : a.blk ≤ 262144) (lo : S.1 9 7 = a.ld) (fn : S.1 9 4 = nI a.fx.length) (fx : a.fx.length ≤ 65536 → ∀ i p l, a.fx[i]? = some (p, l) → S.1 64 (a.fx.length - 1 - i) = nI (19840 + p) ∧ S.1 65 (a.fx.length - 1 - i) = l) (lb : ∀ l v, lkL a.lb l = some v → ¬ l < 0 → ¬ nI 66048 ≤ l → S.1 63 l.toNatClampNeg = nI (19840 + v)) (me : ∀ i w, a.ws[i]? = some w → S.1 14 (19840 + (a.n - 1 - i)) = w) (ow : S.1 9 9 = a.own) (fr : ∀ b j, b ≠ 9 → b ≠ 63 → b ≠ 64 → b ≠ 65 → b ≠ 14 → S.1 b j = S0.1 b j) (fm : ∀ j, j < 19840 → S.1 14 j = S0.1 14 j) (f2 : S.2 = S0.2) : AS S0 S a := by
  unfold AS
  exact ⟨hw, hr, ln, cp, bs, bc, lo, fn, fx, lb, me, ow, fr, fm, f2⟩
theorem AS.hw {S0 S : xS} {a : PA} (h : AS S0 S a) : S.1 9 8 = a.how := h.1
theorem AS.hr {S0 S : xS} {a : PA} (h : AS S0 S a) : S.1 9 5 = nI (19840 + a.n) := h.2.1
theorem AS.ln {S0 S : xS} {a : PA} (h : AS S0 S a) : a.ws.length = a.n := h.2.2.1
theorem AS.cp {S0 S : xS} {a : PA} (h : AS S0 S a) : a.n ≤ 262144 := h.2.2.2.1
theorem AS.bs {S0 S : xS} {a : PA} (h : AS S0 S a) : S.1 9 6 = nI (19840 + a.blk) := h.2.2.2.2.1
theorem AS.bc {S0 S : xS} {a : PA} (h : AS S0 S a) : a.blk ≤ 262144 := h.2.2.2.2.2.1
theorem AS.lo {S0 S : xS} {a : PA} (h : AS S0 S a) : S.1 9 7 = a.ld := h.2.2.2.2.2.2.1
theorem AS.fn {S0 S : xS} {a : PA} (h : AS S0 S a) : S.1 9 4 = nI a.fx.length := h.2.2.2.2.2.2.2.1
theorem AS.fx {S0 S : xS} {a : PA} (h : AS S0 S a) : a.fx.length ≤ 65536 → ∀ i p l, a.fx[i]? = some (p, l) → S.1 64 (a.fx.length - 1 - i) = nI (19840 + p) ∧ S.1 65 (a.fx.length - 1 - i) = l := h.2.2.2.2.2.2.2.2.1
theorem AS.lb {S0 S : xS} {a : PA} (h : AS S0 S a) : ∀ l v, lkL a.lb l = some v → ¬ l < 0 → ¬ nI 66048 ≤ l → S.1 63 l.toNatClampNeg = nI (19840 + v) := h.2.2.2.2.2.2.2.2.2.1
theorem AS.me {S0 S : xS} {a : PA} (h : AS S0 S a) : ∀ i w, a.ws[i]? = some w → S.1 14 (19840 + (a.n - 1 - i)) = w := h.2.2.2.2.2.2.2.2.2.2.1
theorem AS.ow {S0 S : xS} {a : PA} (h : AS S0 S a) : S.1 9 9 = a.own := h.2.2.2.2.2.2.2.2.2.2.2.1
theorem AS.fr {S0 S : xS} {a : PA} (h : AS S0 S a) : ∀ b j, b ≠ 9 → b ≠ 63 → b ≠ 64 → b ≠ 65 → b ≠ 14 → S.1 b j = S0.1 b j := h.2.2.2.2.2.2.2.2.2.2.2.2.1
theorem AS.fm {S0 S : xS} {a : PA} (h : AS S0 S a) : ∀ j, j < 19840 → S.1 14 j = S0.1 14 j := h.2.2.2.2.2.2.2.2.2.2.2.2.2.1
theorem AS.f2 {S0 S : xS} {a : PA} (h : AS S0 S a) : S.2 = S0.2 := h.2.2.2.2.2.2.2.2.2.2.2.2.2.2
section
variable {S0 S : xS} {a : PA} {w l t x : Int32}
theorem AS.sld (h : AS S0 S a) (x : Int32) : AS S0 (xsetI S 9 7 x) (a.sld x) := AS.mk
  (hw := h.hw)
  (hr := h.hr)
  (ln := h.ln)
  (cp := h.cp)
  (bs := h.bs)
  (bc := h.bc)
  (lo := rfl)
  (fn := h.fn)
  (fx := h.fx)
  (lb := h.lb)
  (me := h.me)
  (ow := h.ow)
  (fr := fun b j h1 h2 h3 h4 h5 => (if_neg (fun q => h1 q.1)).trans (h.fr b j h1 h2 h3 h4 h5))
  (fm := h.fm)
  (f2 := h.f2)
theorem AS.sbs (h : AS S0 S a) : AS S0 (xsetI S 9 6 (S.1 9 5)) a.sbs := AS.mk
  (hw := h.hw)
  (hr := h.hr)
  (ln := h.ln)
  (cp := h.cp)
  (bs := h.hr)
  (bc := h.cp)
  (lo := h.lo)
  (fn := h.fn)
  (fx := h.fx)
  (lb := h.lb)
  (me := h.me)
  (ow := h.ow)
  (fr := fun b j h1 h2 h3 h4 h5 => (if_neg (fun q => h1 q.1)).trans (h.fr b j h1 h2 h3 h4 h5))
  (fm := h.fm)
  (f2 := h.f2)
theorem AS.lab (h : AS S0 S a) : AS S0 (lbF S) (pLb a) := by
  unfold lbF pLb
  rw [h.ow]
  by_cases q : (66047 : Int32) ≤ a.own
  · rw [if_pos q, if_pos q]
    exact h
  · rw [if_neg q, if_neg q]
    exact AS.mk (hw := h.hw)
            (hr := h.hr)
            (ln := h.ln)
            (cp := h.cp)
            (bs := h.bs)
            (bc := h.bc)
            (lo := h.lo)
            (fn := h.fn)
            (fx := h.fx)
            (lb := h.lb)
            (me := h.me)
            (ow := rfl)
            (fr := fun b j h1 h2 h3 h4 h5 => (if_neg (fun q => h1 q.1)).trans (h.fr b j h1 h2 h3 h4 h5))
            (fm := h.fm)
            (f2 := h.f2)
theorem AS.drop (h : AS S0 S a) (q : 1 ≤ a.n) : AS S0 (xsetI S 9 5 (S.1 9 5 - 1)) (a.swn a.ws.tail (a.n - 1)) := AS.mk
  (hw := h.hw)
  (hr := by
    show S.1 9 5 - 1 = nI (19840 + (a.n - 1))
    rw [h.hr, show 19840 + a.n = 19840 + (a.n - 1) + 1 from by omega, nS1])
  (ln := by
    show a.ws.tail.length = a.n - 1
    rw [List.length_tail, h.ln])
  (cp := by have := h.cp; show a.n - 1 ≤ 262144; omega)
  (bs := h.bs)
  (bc := h.bc)
  (lo := h.lo)
  (fn := h.fn)
  (fx := h.fx)
  (lb := h.lb)
  (me := by
    intro i w hi
    have hi : a.ws.tail[i]? = some w := hi
    rw [List.getElem?_tail] at hi
    have := h.me (i + 1) w hi
    show S.1 14 (19840 + (a.n - 1 - 1 - i)) = w
    rw [show a.n - 1 - 1 - i = a.n - 1 - (i + 1) from by omega]
    exact this)
  (ow := h.ow)
  (fr := fun b j h1 h2 h3 h4 h5 => (if_neg (fun q => h1 q.1)).trans (h.fr b j h1 h2 h3 h4 h5))
  (fm := h.fm)
  (f2 := h.f2)
theorem AS.lay (h : AS S0 S a) (w : Int32) : AS S0 (layF S w) (pLay a w) := by
  have hc := h.cp
  unfold layF pLay
  by_cases q : a.n < 262144
  · rw [if_pos q]
    have e1 : xput S 14 281984 (S.1 9 5) w = xsetI S 14 (19840 + a.n) w := by
      rw [h.hr]
      exact xput_in (by omega) (by decide)
    have e2 : (xsetI S 14 (19840 + a.n) w).1 9 5 = nI (19840 + a.n) := h.hr
    simp only [e1, e2]
    rw [if_neg (show ¬ (281984 : Int32) ≤ nI (19840 + a.n) from nI_ge (b := 281984) (by omega) (by decide)), nA1]
    exact AS.mk (hw := h.hw)
            (hr := rfl)
            (ln := (congrArg (· + 1) h.ln))
            (cp := q)
            (bs := h.bs)
            (bc := h.bc)
            (lo := h.lo)
            (fn := h.fn)
            (fx := h.fx)
            (lb := h.lb)
            (me := by
              intro i v hi
              show (if 14 = 14 ∧ 19840 + (a.n + 1 - 1 - i) = 19840 + a.n then w else S.1 14 (19840 + (a.n + 1 - 1 - i))) = v
              cases i with
              | zero =>
                rw [if_pos (show 14 = 14 ∧ 19840 + (a.n + 1 - 1 - 0) = 19840 + a.n from ⟨rfl, by omega⟩)]
                exact Option.some.inj hi
              | succ i =>
                have hi : a.ws[i]? = some v := hi
                have hl : i < a.ws.length := (List.getElem?_eq_some_iff.mp hi).1
                rw [h.ln] at hl
                rw [if_neg (show ¬ (14 = 14 ∧ 19840 + (a.n + 1 - 1 - (i + 1)) = 19840 + a.n) from by omega), show a.n + 1 - 1 - (i + 1) = a.n - 1 - i from by omega]
                exact h.me i v hi)
            (ow := h.ow)
            (fr := fun b j h1 h2 h3 h4 h5 => (if_neg (fun q => h1 q.1)).trans ((if_neg (fun q => h5 q.1)).trans (h.fr b j h1 h2 h3 h4 h5)))
            (fm := fun j hj => (if_neg (fun q => by omega)).trans (h.fm j hj))
            (f2 := h.f2)
  · rw [if_neg q]
    have hn : a.n = 262144 := by omega
    have e0 : S.1 9 5 = 281984 := by rw [h.hr, hn]; rfl
    have e1 : xput S 14 281984 (S.1 9 5) w = S := by
      rw [e0]
      unfold xput
      rw [if_neg (by decide), if_pos (by decide)]
    simp only [e1]
    rw [e0, if_pos (by decide)]
    exact h
theorem AS.slot (h : AS S0 S a) : AS S0 (slotF S) (pSlot a) := (h.lay 0).sld 0
theorem AS.lds (h : AS S0 S a) : AS S0 (ldS S) (pLdS a) := by
  unfold ldS pLdS
  rw [h.lo]
  by_cases q : a.ld = 0
  · rw [if_pos q, if_pos q]; exact h
  · rw [if_neg q, if_neg q]; exact h.slot
theorem AS.fixg (h : AS S0 S a) (l : Int32) : AS S0 (fixG S l) (pFx a l) := by
  unfold fixG pFx
  have hc := h.cp
  by_cases q : a.fx.length < 65536
  · have e1 : xput S 64 65536 (S.1 9 4) (S.1 9 5) = xsetI S 64 a.fx.length (nI (19840 + a.n)) := by
      rw [h.fn, h.hr]
      exact xput_in q (by decide)
    have e2 : (xsetI S 64 a.fx.length (nI (19840 + a.n))).1 9 4 = nI a.fx.length := h.fn
    simp only [e1, e2]
    rw [xput_in (m := a.fx.length) q (by decide)]
    have e3 : (xsetI (xsetI S 64 a.fx.length (nI (19840 + a.n))) 65 a.fx.length l).1 9 4 = nI a.fx.length := h.fn
    rw [e3, nA1]
    exact AS.mk (hw := h.hw)
            (hr := h.hr)
            (ln := h.ln)
            (cp := h.cp)
            (bs := h.bs)
            (bc := h.bc)
            (lo := h.lo)
            (fn := rfl)
            (fx := by
              intro _ i p l' hi
              show (if 64 = 64 ∧ a.fx.length + 1 - 1 - i = a.fx.length then nI (19840 + a.n) else S.1 64 (a.fx.length + 1 - 1 - i)) = nI (19840 + p) ∧ (if 65 = 65 ∧ a.fx.length + 1 - 1 - i = a.fx.length then l else S.1 65 (a.fx.length + 1 - 1 - i)) = l'
              cases i with
              | zero =>
                have z : (a.n, l) = (p, l') := Option.some.inj hi
                rw [if_pos (show 64 = 64 ∧ a.fx.length + 1 - 1 - 0 = a.fx.length from ⟨rfl, by omega⟩), if_pos (show 65 = 65 ∧ a.fx.length + 1 - 1 - 0 = a.fx.length from ⟨rfl, by omega⟩)]
                exact ⟨by rw [(Prod.mk.inj z).1], (Prod.mk.inj z).2⟩
              | succ i =>
                have hi : a.fx[i]? = some (p, l') := hi
                have hl : i < a.fx.length := (List.getElem?_eq_some_iff.mp hi).1
                rw [if_neg (show ¬ (64 = 64 ∧ a.fx.length + 1 - 1 - (i + 1) = a.fx.length) from by omega), if_neg (show ¬ (65 = 65 ∧ a.fx.length + 1 - 1 - (i + 1) = a.fx.length) from by omega), show a.fx.length + 1 - 1 - (i + 1) = a.fx.length - 1 - i from by omega]
                exact h.fx (by omega) i p l' hi)
            (lb := h.lb)
            (me := h.me)
            (ow := h.ow)
            (fr := fun b j h1 h2 h3 h4 h5 => (if_neg (fun q => h1 q.1)).trans ((if_neg (fun q => h4 q.1)).trans ((if_neg (fun q => h3 q.1)).trans (h.fr b j h1 h2 h3 h4 h5))))
            (fm := h.fm)
            (f2 := h.f2)
  · have f1 : ∀ (T : xS) (n : Nat) (k v : Int32), (xput T 64 n k v).1 9 4 = T.1 9 4 ∧ (xput T 64 n k v).2 = T.2 ∧ ∀ b j, b ≠ 64 → (xput T 64 n k v).1 b j = T.1 b j := by
      intro T n k v
      unfold xput
      split
      · exact ⟨rfl, rfl, fun _ _ _ => rfl⟩
      split
      · exact ⟨rfl, rfl, fun _ _ _ => rfl⟩
      exact ⟨rfl, rfl, fun b j hb => if_neg (fun q => hb q.1)⟩
    have f2 : ∀ (T : xS) (n : Nat) (k v : Int32), (xput T 65 n k v).1 9 4 = T.1 9 4 ∧ (xput T 65 n k v).2 = T.2 ∧ ∀ b j, b ≠ 65 → (xput T 65 n k v).1 b j = T.1 b j := by
      intro T n k v
      unfold xput
      split
      · exact ⟨rfl, rfl, fun _ _ _ => rfl⟩
      split
      · exact ⟨rfl, rfl, fun _ _ _ => rfl⟩
      exact ⟨rfl, rfl, fun b j hb => if_neg (fun q => hb q.1)⟩
    simp only
    generalize hT : xput S 64 65536 (S.1 9 4) (S.1 9 5) = T
    obtain ⟨t1, t2, t3⟩ := f1 S 65536 (S.1 9 4) (S.1 9 5)
    rw [hT] at t1 t2 t3
    generalize hU : xput T 65 65536 (T.1 9 4) l = U
    obtain ⟨u1, u2, u3⟩ := f2 T 65536 (T.1 9 4) l
    rw [hU] at u1 u2 u3
    have g : ∀ b j, b ≠ 64 → b ≠ 65 → U.1 b j = S.1 b j := fun b j h1 h2 => (u3 b j h2).trans (t3 b j h1)
    rw [u1, t1, h.fn, nA1]
    exact AS.mk (hw := (g 9 8 (by decide) (by decide)).trans h.hw)
            (hr := (g 9 5 (by decide) (by decide)).trans h.hr)
            (ln := h.ln)
            (cp := h.cp)
            (bs := (g 9 6 (by decide) (by decide)).trans h.bs)
            (bc := h.bc)
            (lo := (g 9 7 (by decide) (by decide)).trans h.lo)
            (fn := rfl)
            (fx := fun q2 => absurd q2 (by show ¬ a.fx.length + 1 ≤ 65536; omega))
            (lb := fun l v e1 e2 e3 => (g 63 _ (by decide) (by decide)).trans (h.lb l v e1 e2 e3))
            (me := fun i w hi => (g 14 _ (by decide) (by decide)).trans (h.me i w hi))
            (ow := (g 9 9 (by decide) (by decide)).trans h.ow)
            (fr := fun b j h1 h2 h3 h4 h5 => (if_neg (fun q => h1 q.1)).trans ((g b j h3 h4).trans (h.fr b j h1 h2 h3 h4 h5)))
            (fm := fun j hj => (g 14 _ (by decide) (by decide)).trans (h.fm j hj))
            (f2 := u2.trans (t2.trans h.f2))
theorem AS.fixf (h : AS S0 S a) (l : Int32) : AS S0 (fixF S l) (pFxF a l) := by
  unfold fixF pFxF
  by_cases q : l < 0
  · rw [if_pos q, if_pos q]; exact h
  · rw [if_neg q, if_neg q]; exact h.fixg l
theorem AS.land (h : AS S0 S a) (l : Int32) : AS S0 (ldF S l) (pLd a l) := by
  have h := h.lds
  unfold ldF pLd
  generalize ldS S = T at h ⊢
  generalize pLdS a = b at h ⊢
  have hk : AS S0 (xput T 63 66048 l (T.1 9 5)) (b.slb l) := by
    unfold xput
    have key : ∀ l' v, lkL ((l, b.n) :: b.lb) l' = some v → (l = l' ∧ v = b.n) ∨ (l ≠ l' ∧ lkL b.lb l' = some v) := by
      intro l' v e
      unfold lkL at e
      by_cases q : l = l'
      · rw [if_pos q] at e
        exact .inl ⟨q, (Option.some.inj e).symm⟩
      · rw [if_neg q] at e
        exact .inr ⟨q, e⟩
    by_cases q1 : l < 0
    · rw [if_pos q1]
      refine AS.mk (hw := h.hw)
            (hr := h.hr)
            (ln := h.ln)
            (cp := h.cp)
            (bs := h.bs)
            (bc := h.bc)
            (lo := h.lo)
            (fn := h.fn)
            (fx := h.fx)
            (lb := ?_)
            (me := h.me)
            (ow := h.ow)
            (fr := h.fr)
            (fm := h.fm)
            (f2 := h.f2)
      intro l' v e e1 e2
      rcases key l' v e with ⟨rfl, _⟩ | ⟨_, e⟩
      · exact absurd q1 e1
      · exact h.lb l' v e e1 e2
    rw [if_neg q1]
    by_cases q2 : nI 66048 ≤ l
    · rw [if_pos q2]
      refine AS.mk (hw := h.hw)
            (hr := h.hr)
            (ln := h.ln)
            (cp := h.cp)
            (bs := h.bs)
            (bc := h.bc)
            (lo := h.lo)
            (fn := h.fn)
            (fx := h.fx)
            (lb := ?_)
            (me := h.me)
            (ow := h.ow)
            (fr := h.fr)
            (fm := h.fm)
            (f2 := h.f2)
      intro l' v e e1 e2
      rcases key l' v e with ⟨rfl, _⟩ | ⟨_, e⟩
      · exact absurd q2 e2
      · exact h.lb l' v e e1 e2
    rw [if_neg q2]
    refine AS.mk (hw := h.hw)
            (hr := h.hr)
            (ln := h.ln)
            (cp := h.cp)
            (bs := h.bs)
            (bc := h.bc)
            (lo := h.lo)
            (fn := h.fn)
            (fx := h.fx)
            (lb := ?_)
            (me := h.me)
            (ow := h.ow)
            (fr := fun b j h1 h2 h3 h4 h5 => (if_neg (fun q => h2 q.1)).trans (h.fr b j h1 h2 h3 h4 h5))
            (fm := h.fm)
            (f2 := h.f2)
    intro l' v e e1 e2
    show (if 63 = 63 ∧ l'.toNatClampNeg = l.toNatClampNeg then T.1 9 5 else T.1 63 l'.toNatClampNeg) = nI (19840 + v)
    rcases key l' v e with ⟨rfl, rfl⟩ | ⟨q3, e⟩
    · rw [if_pos ⟨rfl, rfl⟩]
      exact h.hr
    · rw [if_neg]
      · exact h.lb l' v e e1 e2
      · rintro ⟨_, z⟩
        obtain ⟨i, hi, rfl⟩ := nI_of e1
        obtain ⟨j, hj, rfl⟩ := nI_of q1
        rw [nI_clamp hi, nI_clamp hj] at z
        exact q3 (by rw [z])
  exact hk.sbs
end
