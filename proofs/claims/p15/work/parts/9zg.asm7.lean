/-! Assembler: a word, a jump, the same upon lists. -/
theorem nI_sub {x y : Nat} : nI (x + y) - nI y = nI x := by
  rw [← nI_add]
  exact Int32.add_sub_cancel _ _
section
variable {S0 S : xS} {a : PA} {w l t x : Int32} {k : Nat}
theorem AS.hk (h : AS S0 S a) (hk : k ≤ 19840) : S.1 9 5 - nI k = nI (19840 + a.n - k) := by
  rw [h.hr, show 19840 + a.n = (19840 + a.n - k) + k from by omega, nI_sub, show (19840 + a.n - k) + k - k = 19840 + a.n - k from by omega]
theorem AS.leq (h : AS S0 S a) (hk : k ≤ 19840) : S.1 9 6 ≤ S.1 9 5 - nI k ↔ a.blk + k ≤ a.n := by
  have h1 := h.cp
  have h2 := h.bc
  rw [h.hk hk, h.bs, nI_leI (by omega) (by omega)]
  omega
theorem AS.blt (h : AS S0 S a) (hk : k ≤ 19840) : S.1 9 5 - nI k < S.1 9 6 ↔ a.n < a.blk + k := by
  have h1 := h.cp
  have h2 := h.bc
  rw [h.hk hk, h.bs, nI_ltI (by omega) (by omega)]
  omega
theorem AS.bk (h : AS S0 S a) (hk : k + 1 ≤ a.n) (hk' : k < 19840) : bkF S (nI (k + 1)) = wat a k := by
  have h1 := h.cp
  unfold bkF wat
  rw [h.hk (by omega), xat_in (by omega) (by decide)]
  have hl : k < a.ws.length := by rw [h.ln]; omega
  have := h.me k (a.ws.getD k 0) (by rw [List.getD_eq_getElem?_getD, List.getElem?_eq_getElem hl]; rfl)
  rw [← this, show 19840 + a.n - (k + 1) = 19840 + (a.n - 1 - k) from by omega]
theorem AS.bk1 (h : AS S0 S a) (hk : 1 ≤ a.n) : bkF S 1 = wat a 0 := h.bk (k := 0) hk (by decide)
theorem AS.bk2 (h : AS S0 S a) (hk : 2 ≤ a.n) : bkF S 2 = wat a 1 := h.bk (k := 1) hk (by decide)
theorem AS.ah2 (h : AS S0 S a) : ahF S 2 = pAh a 1 := by
  have h2 : S.1 9 5 - 2 < S.1 9 6 ↔ a.n < a.blk + 2 := h.blt (k := 2) (by decide)
  unfold ahF pAh
  by_cases q : a.n < a.blk + (1 + 1)
  · rw [if_pos q, if_pos (h2.mpr q)]
  · rw [if_neg q, if_neg (fun z => q (h2.mp z)), h.bk2 (by omega)]
theorem AS.ah3 (h : AS S0 S a) : ahF S 3 = pAh a 2 := by
  have h2 : S.1 9 5 - 3 < S.1 9 6 ↔ a.n < a.blk + 3 := h.blt (k := 3) (by decide)
  unfold ahF pAh
  by_cases q : a.n < a.blk + (2 + 1)
  · rw [if_pos q, if_pos (h2.mpr q)]
  · rw [if_neg q, if_neg (fun z => q (h2.mp z))]
    exact h.bk (k := 2) (by omega) (by decide)
theorem AS.cfl (h : AS S0 S a) : cflF S = pCfl a := by
  have h2 : S.1 9 6 ≤ S.1 9 5 - 2 ↔ a.blk + 2 ≤ a.n := h.leq (k := 2) (by decide)
  unfold cflF pCfl
  by_cases q : a.blk + 2 ≤ a.n
  · rw [if_pos q, if_pos (h2.mpr q), h.bk1 (by omega), h.bk2 (by omega), h.ah3]
  · rw [if_neg q, if_neg (fun z => q (h2.mp z))]
theorem AS.cfp (h : AS S0 S a) : cfpF S w = pCfp a w := by
  have h2 : S.1 9 6 ≤ S.1 9 5 - 1 ↔ a.blk + 1 ≤ a.n := h.leq (k := 1) (by decide)
  unfold cfpF pCfp
  by_cases q : a.blk + 1 ≤ a.n
  · have e : cfpA S w = pCfA a w := by
      unfold cfpA pCfA cfpB pCfB
      rw [h.bk1 (by omega), h.ah2]
    rw [if_pos q, if_pos (h2.mpr q), h.bk1 (by omega), e]
  · rw [if_neg q, if_neg (fun z => q (h2.mp z))]
theorem pCfl_n (q : ¬ pCfl a = 0) : 2 ≤ a.n := by
  unfold pCfl at q
  by_cases z : a.blk + 2 ≤ a.n
  · omega
  · exact absurd (if_neg z) q
theorem pCfp_n (q : ¬ pCfp a w = 0) : 1 ≤ a.n := by
  unfold pCfp at q
  by_cases z : a.blk + 1 ≤ a.n
  · omega
  · exact absurd (if_neg z) q
theorem swL_len : ∀ r : List Int32, (swL r).length = r.length
  | [] => rfl
  | [_] => rfl
  | _ :: _ :: _ => rfl
theorem AS.swp (h : AS S0 S a) (q : 2 ≤ a.n) : AS S0 (swpF S) (pSwp a) := by
  have h1 := h.cp
  unfold swpF pSwp
  have e0 := h.bk2 q
  have e9 := h.bk1 (by omega)
  have p0 := h.hk (k := 1) (by decide)
  have p1 : S.1 9 5 - 1 = nI (19840 + a.n - 1) := p0
  have e1 : xput S 14 281984 (S.1 9 5 - 1) (bkF S 2) = xsetI S 14 (19840 + a.n - 1) (wat a 1) := by
    rw [p1, e0]
    exact xput_in (by omega) (by decide)
  have e2 : (xsetI S 14 (19840 + a.n - 1) (wat a 1)).1 9 5 - 2 = nI (19840 + a.n - 2) := h.hk (k := 2) (by decide)
  simp only [e1, e2, e9]
  rw [xput_in (m := 19840 + a.n - 2) (by omega) (by decide)]
  have hh : AS S0 (xsetI (xsetI S 14 (19840 + a.n - 1) (wat a 1)) 14 (19840 + a.n - 2) (wat a 0)) (a.swn (swL a.ws) a.n) := by
   refine AS.mk (hw := h.hw)
            (hr := h.hr)
            (ln := (swL_len a.ws).trans h.ln)
            (cp := h.cp)
            (bs := h.bs)
            (bc := h.bc)
            (lo := h.lo)
            (fn := h.fn)
            (fx := h.fx)
            (lb := h.lb)
            (me := ?_)
            (ow := h.ow)
            (fr := fun b j h1 h2 h3 h4 h5 => (if_neg (fun q => h5 q.1)).trans ((if_neg (fun q => h5 q.1)).trans (h.fr b j h1 h2 h3 h4 h5)))
            (fm := fun j hj => (if_neg (fun q => by omega)).trans ((if_neg (fun q => by omega)).trans (h.fm j hj)))
            (f2 := h.f2)
   intro i v hi
   show (if 14 = 14 ∧ 19840 + (a.n - 1 - i) = 19840 + a.n - 2 then wat a 0 else if 14 = 14 ∧ 19840 + (a.n - 1 - i) = 19840 + a.n - 1 then wat a 1 else S.1 14 (19840 + (a.n - 1 - i))) = v
   have hme := h.me
   have hln := h.ln
   unfold wat
   generalize a.ws = r at hi hme hln ⊢
   match r, hi with
   | [], hi => cases hi
   | [_], hi => exact absurd hln (by show ¬ 1 = a.n; omega)
   | x :: y :: r, hi =>
     match i, hi with
     | 0, hi =>
       rw [if_neg (show ¬ (14 = 14 ∧ 19840 + (a.n - 1 - 0) = 19840 + a.n - 2) from by omega), if_pos (show 14 = 14 ∧ 19840 + (a.n - 1 - 0) = 19840 + a.n - 1 from ⟨rfl, by omega⟩)]
       exact Option.some.inj hi
     | 1, hi =>
       rw [if_pos (show 14 = 14 ∧ 19840 + (a.n - 1 - 1) = 19840 + a.n - 2 from ⟨rfl, by omega⟩)]
       exact Option.some.inj hi
     | i + 2, hi =>
       have hi : (x :: y :: r)[i + 2]? = some v := hi
       have hl : i + 2 < (x :: y :: r).length := (List.getElem?_eq_some_iff.mp hi).1
       rw [hln] at hl
       rw [if_neg (show ¬ (14 = 14 ∧ 19840 + (a.n - 1 - (i + 2)) = 19840 + a.n - 2) from by omega), if_neg (show ¬ (14 = 14 ∧ 19840 + (a.n - 1 - (i + 2)) = 19840 + a.n - 1) from by omega)]
       exact hme (i + 2) v hi
  exact hh.sld 0
theorem AS.ema (h : AS S0 S a) (w : Int32) : AS S0 (emA S w) (pEmA a w) := by
  unfold emA pEmA
  rw [h.lo, h.hw, h.cfl]
  by_cases q1 : a.ld = 0
  · rw [if_pos q1, if_pos q1]; exact h
  rw [if_neg q1, if_neg q1]
  by_cases q2 : tchI w a.ld = 0
  · rw [if_pos q2, if_pos q2]; exact h
  rw [if_neg q2, if_neg q2]
  by_cases q3 : a.how = 2
  · rw [if_pos q3, if_pos q3]
    by_cases q4 : pCfl a = 0
    · rw [if_pos q4, if_pos q4]; exact h.slot
    · rw [if_neg q4, if_neg q4]; exact h.swp (pCfl_n q4)
  · rw [if_neg q3, if_neg q3]; exact h.slot
theorem AS.emit (h : AS S0 S a) (w : Int32) : AS S0 (emF S w) (pEm a w) := by
  unfold emF pEm emB pEmB
  have h := (h.ema w).lay w
  generalize layF (emA S w) w = T at h ⊢
  generalize pLay (pEmA a w) w = b at h ⊢
  rw [h.hw]
  by_cases q1 : ldI w = 0
  · rw [if_pos q1, if_pos q1]; exact h.sld 0
  rw [if_neg q1, if_neg q1]
  by_cases q2 : b.how = 2
  · rw [if_pos q2, if_pos q2]; exact h.sld _
  rw [if_neg q2, if_neg q2]
  by_cases q3 : asB w = 0
  · rw [if_pos q3, if_pos q3]; exact h.sld _
  · rw [if_neg q3, if_neg q3]; exact (h.sld _).slot
theorem AS.lpe (h : AS S0 S a) (l w x : Int32) : AS S0 (lpE S l w x) (pLpE a l w x) := by
  unfold lpE pLpE
  have h1 := ((h.fixf l).lay w).lay x
  generalize layF (layF (fixF S l) w) x = T at h1 ⊢
  generalize pLay (pLay (pFxF a l) w) x = b at h1 ⊢
  exact (h1.sld 0).sbs
theorem AS.leap (h : AS S0 S a) (w l : Int32) : AS S0 (lpF S w l) (pLp a w l) := by
  unfold lpF pLp lpB pLpB
  have h : AS S0 (lpA S w) (pLpA a w) := by
    unfold lpA pLpA
    rw [h.lo]
    by_cases q1 : a.ld = 0
    · rw [if_pos q1, if_pos q1]; exact h
    rw [if_neg q1, if_neg q1]
    by_cases q2 : tchI w a.ld = 0
    · rw [if_pos q2, if_pos q2]; exact h
    · rw [if_neg q2, if_neg q2]; exact h.slot
  generalize lpA S w = T at h ⊢
  generalize pLpA a w = b at h ⊢
  rw [h.hw, h.cfp]
  by_cases q3 : b.how = 2
  · rw [if_pos q3, if_pos q3]
    by_cases q4 : pCfp b w = 0
    · rw [if_pos q4, if_pos q4]; exact h.lpe _ _ _
    · rw [if_neg q4, if_neg q4, h.bk1 (pCfp_n q4)]
      exact (h.drop (pCfp_n q4)).lpe _ _ _
  · rw [if_neg q3, if_neg q3]; exact h.lpe _ _ _
theorem AS.code (h : AS S0 S a) (t l : Int32) : AS S0 (scF S t l) (pSc a t l) := by
  unfold scF pSc
  have h1 := (((h.lds.fixg l).emit (scW0 t)).fixg l).emit (scW1 t)
  generalize emF (fixG (emF (fixG (ldS S) l) (scW0 t)) l) (scW1 t) = T at h1 ⊢
  generalize pEm (pFx (pEm (pFx (pLdS a) l) (scW0 t)) l) (scW1 t) = b at h1 ⊢
  exact h1.sbs
theorem AS.stop (h : AS S0 S a) : AS S0 (stF S) (pSt a) := by
  unfold stF pSt
  have h1 := h.lds.lay 12
  generalize layF (ldS S) 12 = T at h1 ⊢
  generalize pLay (pLdS a) 12 = b at h1 ⊢
  exact h1.sbs
theorem AS.sett (h : AS S0 S a) (t x : Int32) : AS S0 (setF S t x) (pSe a t x) := by
  have hB : AS S0 (setB S t x) (pSeB a t x) := by
    unfold setB pSeB
    by_cases q : x &&& 65535 = 0
    · rw [if_pos q, if_pos q]; exact h.emit _
    · rw [if_neg q, if_neg q]; exact (h.emit _).emit _
  unfold setF pSe
  by_cases q1 : x < (-32768)
  · rw [if_pos q1, if_pos q1]; exact hB
  rw [if_neg q1, if_neg q1]
  by_cases q2 : 32767 < x
  · rw [if_pos q2, if_pos q2]; exact hB
  · rw [if_neg q2, if_neg q2]; exact h.emit _
theorem AS.opn (w : Int32) : AS S (opF S w) (pOp w) := AS.mk
  (hw := rfl)
  (hr := rfl)
  (ln := rfl)
  (cp := Nat.zero_le _)
  (bs := rfl)
  (bc := Nat.zero_le _)
  (lo := rfl)
  (fn := rfl)
  (fx := fun _ i p l hi => by cases hi)
  (lb := fun l v e => by cases e)
  (me := fun i w hi => by cases hi)
  (ow := rfl)
  (fr := fun b j h1 h2 h3 h4 h5 => (if_neg (fun q => h1 q.1)).trans ((if_neg (fun q => h1 q.1)).trans ((if_neg (fun q => h1 q.1)).trans ((if_neg (fun q => h1 q.1)).trans ((if_neg (fun q => h1 q.1)).trans (if_neg (fun q => h1 q.1)))))))
  (fm := fun _ _ => rfl)
  (f2 := rfl)
end
