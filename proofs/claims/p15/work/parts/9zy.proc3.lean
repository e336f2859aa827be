/-! Processor: turns, an instruction at a time. -/
def wr (r : Nat → Int32) (t : Nat) (v : Int32) : Nat → Int32 := if t = 0 then r else upd r t v
theorem wr_at {r : Nat → Int32} {t j : Nat} {v : Int32} : wr r t v j = if t = 0 then r j else if j = t then v else r j := by
  unfold wr
  by_cases h : t = 0
  · rw [if_pos h, if_pos h]
  · rw [if_neg h, if_neg h]; rfl
/-- the same within a turn: next, behind next -/
def PX (S0 S : xS) (z : PZ) : Prop := S.1 66 = z.1 ∧ S.1 14 = z.2.1 ∧ S.1 11 3 = nI (4 * z.2.2.1) ∧ S.1 11 4 = nI (4 * z.2.2.2.1) ∧ S.1 11 5 = z.2.2.2.2.1 ∧ S.1 11 6 = z.2.2.2.2.2.1 ∧ S.1 11 7 = nI z.2.2.2.2.2.2.1 ∧ S.1 11 8 = z.2.2.2.2.2.2.2 ∧ S.1 11 9 = 0 ∧ (∀ b, b ≠ 11 → b ≠ 66 → b ≠ 14 → S.1 b = S0.1 b) ∧ S.2 = S0.2
section
variable {S0 S T : xS} {r m : Nat → Int32} {q p A hi lo' : Nat} {h l lw v : Int32} {lt t k : Nat}
theorem PX.wrt (x : PX S0 T (r, m, p, A, h, l, lt, lw)) (ht : t < 32) (v : Int32) : PX S0 (wrS T (nI t) v) (wr r t v, m, p, A, h, l, lt, lw) := by
  unfold wrS wr
  by_cases h0 : t = 0
  · subst h0
    rw [if_pos (by rfl), if_pos rfl]
    exact x
  · rw [if_neg (nI_ne0 (by omega) (by omega)), if_neg h0, xput_in ht (by decide)]
    obtain ⟨x1, x2, x3, x4, x5, x6, x7, x8, x9, x10, x11⟩ := x
    exact ⟨by rw [xsetI_own, x1], by rw [xsetI_row (by decide)]; exact x2, x3, x4, x5, x6, x7, x8, x9, fun b h1 h2 h3 => by rw [xsetI_row h2]; exact x10 b h1 h2 h3, x11⟩
theorem PX.aft (x : PX S0 T (r, m, p, A, h, l, lt, lw)) (B : Nat) : PX S0 (xsetI T 11 4 (nI (4 * B))) (r, m, p, B, h, l, lt, lw) := by
  obtain ⟨x1, x2, x3, x4, x5, x6, x7, x8, x9, x10, x11⟩ := x
  exact ⟨x1, x2, x3, rfl, x5, x6, x7, x8, x9, fun b h1 h2 h3 => by rw [xsetI_row h1]; exact x10 b h1 h2 h3, x11⟩
theorem PX.hl (x : PX S0 T (r, m, p, A, h, l, lt, lw)) (h' l' : Int32) : PX S0 (xsetI (xsetI T 11 6 l') 11 5 h') (r, m, p, A, h', l', lt, lw) := by
  obtain ⟨x1, x2, x3, x4, x5, x6, x7, x8, x9, x10, x11⟩ := x
  exact ⟨x1, x2, x3, x4, rfl, rfl, x7, x8, x9, fun b h1 h2 h3 => by rw [xsetI_row h1, xsetI_row h1]; exact x10 b h1 h2 h3, x11⟩
theorem PX.lat (x : PX S0 T (r, m, p, A, h, l, lt, lw)) (t : Nat) (v : Int32) : PX S0 (xsetI (xsetI T 11 7 (nI t)) 11 8 v) (r, m, p, A, h, l, t, v) := by
  obtain ⟨x1, x2, x3, x4, x5, x6, x7, x8, x9, x10, x11⟩ := x
  exact ⟨x1, x2, x3, x4, x5, x6, rfl, rfl, x9, fun b h1 h2 h3 => by rw [xsetI_row h1, xsetI_row h1]; exact x10 b h1 h2 h3, x11⟩
theorem PX.mem (x : PX S0 T (r, m, p, A, h, l, lt, lw)) (hk : k < 281984) (v : Int32) : PX S0 (xput T 14 281984 (nI k) v) (r, upd m k v, p, A, h, l, lt, lw) := by
  rw [xput_in hk (by decide)]
  obtain ⟨x1, x2, x3, x4, x5, x6, x7, x8, x9, x10, x11⟩ := x
  exact ⟨by rw [xsetI_row (by decide)]; exact x1, by rw [xsetI_own, x2], x3, x4, x5, x6, x7, x8, x9, fun b h1 h2 h3 => by rw [xsetI_row h3]; exact x10 b h1 h2 h3, x11⟩
theorem PX.reg (x : PX S0 T (r, m, p, A, h, l, lt, lw)) (ht : t < 32) : rg T (nI t) = r t := by
  unfold rg
  rw [xat_in ht (by decide), x.1]
theorem PX.mat (x : PX S0 T (r, m, p, A, h, l, lt, lw)) (hk : k < 281984) : xat T 14 281984 (nI k) = m k := by
  rw [xat_in hk (by decide), x.2.1]
theorem PR.beg (x : PR S0 S (r, m, q, p, h, l, lt, lw)) : PX S0 (tuA S) (r, m, p, p + 1, h, l, 0, lw) := by
  obtain ⟨x1, x2, x3, x4, x5, x6, x7, x8, x9, x10, x11⟩ := x
  refine ⟨x1, x2, x4, ?_, x5, x6, rfl, x8, x9, fun b h1 h2 h3 => ?_, x11⟩
  · show S.1 11 3 + 4 = nI (4 * (p + 1))
    rw [x4]
    exact nA4
  · unfold tuA
    rw [xsetI_row h1, xsetI_row h1]; exact x10 b h1 h2 h3
theorem PX.fin (x : PX S0 T (r, m, p, A, h, l, lt, lw)) (ht : t < 32) (v : Int32) : PR S0 (tuB T (nI t) v) (wr r t v, m, p, A, h, l, lt, lw) := by
  have x := x.wrt ht v
  have e : tuL T (nI t) v = wrS T (nI t) v := rfl
  unfold tuB
  rw [e]
  obtain ⟨x1, x2, x3, x4, x5, x6, x7, x8, x9, x10, x11⟩ := x
  exact ⟨x1, x2, x3, x4, x5, x6, x7, x8, x9, fun b h1 h2 h3 => by rw [xsetI_row h1, xsetI_row h1]; exact x10 b h1 h2 h3, x11⟩
/-- some turns -/
def PRun (S0 : xS) (k : Nat) (z z' : PZ) : Prop := ∀ (d n : Nat) (a b : Int32) (S : xS), n + k < 10000000 → PR S0 S z → ∃ S', PR S0 S' z' ∧ ∀ r, PrAt (d + 3) (n + k) a b S' r → PrAt (d + 3) n a b S r
theorem PRun.trans {j k : Nat} {z z' z'' : PZ} (x : PRun S0 j z z') (y : PRun S0 k z' z'') : PRun S0 (j + k) z z'' := by
  intro d n a b S hn hS
  obtain ⟨S1, h1, r1⟩ := x d n a b S (by omega) hS
  obtain ⟨S2, h2, r2⟩ := y d (n + j) a b S1 (by omega) h1
  exact ⟨S2, h2, fun r hr => r1 r (r2 r (by rw [Nat.add_assoc]; exact hr))⟩
theorem PRun.zero {z : PZ} : PRun S0 0 z z := fun _ _ _ _ S _ h => ⟨S, h, fun _ hr => hr⟩
theorem PRun.one {w : Int32} {z' : PZ} (hq : q < 281984) (hw : m q = w) (ht : lt < 32) (x : ∀ d S, PX S0 (tuA S) (r, m, p, p + 1, h, l, 0, lw) → (tuA S).1 11 2 = nI (4 * q) → ∃ T, PEx d w (tuA S) T ∧ PR S0 (tuB T (nI lt) lw) z') : PRun S0 1 (r, m, q, p, h, l, lt, lw) z' := by
  intro d n a b S hn hS
  obtain ⟨T, e, hT⟩ := x d S hS.beg hS.2.2.1
  obtain ⟨x1, x2, x3, x4, x5, x6, x7, x8, x9, x10, x11⟩ := hS
  have x7 : S.1 11 7 = nI lt := x7
  have x8 : S.1 11 8 = lw := x8
  refine ⟨_, hT, fun r hr => p_turn (by omega) x9 ?_ e r (by rw [x7, x8]; exact hr)⟩
  have e3 : S.1 11 2 = nI (4 * q) := x3
  have e2 : S.1 14 = m := x2
  rw [e3, pk_shrN (by omega) _ 2 (by decide), show 4 * q / 2 ^ 2 = q from by omega, xat_in hq (by decide), e2, hw]
theorem r_addu {w : Int32} (hq : q < 281984) (hw : m q = w) (hl : lt < 32) (hk : asK w = 0) (hf : w &&& 63 = 33) {sa sb : Nat} (ha : asA w = nI sa) (hb : asB w = nI sb) (hc : asC w = nI t) (h1 : sa < 32) (h2 : sb < 32) (ht : t < 32) : PRun S0 1 (r, m, q, p, h, l, lt, lw) (wr (wr r t (r sa + r sb)) lt lw, m, p, p + 1, h, l, 0, lw) := by
  refine PRun.one hq hw hl (fun d S x hh => ?_)
  have e := p_addu (d := d) (S := tuA S) hf
  rw [ha, hb, hc, x.reg h1, x.reg h2] at e
  have y := x.wrt ht (r sa + r sb)
  exact ⟨_, Or.inl ⟨hk, e⟩, y.fin hl lw⟩
theorem r_subu {w : Int32} (hq : q < 281984) (hw : m q = w) (hl : lt < 32) (hk : asK w = 0) (hf : w &&& 63 = 35) {sa sb : Nat} (ha : asA w = nI sa) (hb : asB w = nI sb) (hc : asC w = nI t) (h1 : sa < 32) (h2 : sb < 32) (ht : t < 32) : PRun S0 1 (r, m, q, p, h, l, lt, lw) (wr (wr r t (r sa - r sb)) lt lw, m, p, p + 1, h, l, 0, lw) := by
  refine PRun.one hq hw hl (fun d S x hh => ?_)
  have e := p_subu (d := d) (S := tuA S) hf
  rw [ha, hb, hc, x.reg h1, x.reg h2] at e
  have y := x.wrt ht (r sa - r sb)
  exact ⟨_, Or.inl ⟨hk, e⟩, y.fin hl lw⟩
theorem r_xor {w : Int32} (hq : q < 281984) (hw : m q = w) (hl : lt < 32) (hk : asK w = 0) (hf : w &&& 63 = 38) {sa sb : Nat} (ha : asA w = nI sa) (hb : asB w = nI sb) (hc : asC w = nI t) (h1 : sa < 32) (h2 : sb < 32) (ht : t < 32) : PRun S0 1 (r, m, q, p, h, l, lt, lw) (wr (wr r t (r sa ^^^ r sb)) lt lw, m, p, p + 1, h, l, 0, lw) := by
  refine PRun.one hq hw hl (fun d S x hh => ?_)
  have e := p_xor (d := d) (S := tuA S) hf
  rw [ha, hb, hc, x.reg h1, x.reg h2] at e
  have y := x.wrt ht (r sa ^^^ r sb)
  exact ⟨_, Or.inl ⟨hk, e⟩, y.fin hl lw⟩
theorem r_sll {w : Int32} (hq : q < 281984) (hw : m q = w) (hl : lt < 32) (hk : asK w = 0) (hf : w &&& 63 = 0) {sb : Nat} {dd : Int32} (hb : asB w = nI sb) (hc : asC w = nI t) (hd : asD w = dd) (h2 : sb < 32) (ht : t < 32) : PRun S0 1 (r, m, q, p, h, l, lt, lw) (wr (wr r t (r sb <<< (dd &&& 31))) lt lw, m, p, p + 1, h, l, 0, lw) := by
  refine PRun.one hq hw hl (fun d S x hh => ?_)
  have e := p_sll (d := d) (S := tuA S) hf
  rw [hb, hc, hd, x.reg h2] at e
  have y := x.wrt ht (r sb <<< (dd &&& 31))
  exact ⟨_, Or.inl ⟨hk, e⟩, y.fin hl lw⟩
theorem r_sra {w : Int32} (hq : q < 281984) (hw : m q = w) (hl : lt < 32) (hk : asK w = 0) (hf : w &&& 63 = 3) {sb : Nat} {dd : Int32} (hb : asB w = nI sb) (hc : asC w = nI t) (hd : asD w = dd) (h2 : sb < 32) (ht : t < 32) : PRun S0 1 (r, m, q, p, h, l, lt, lw) (wr (wr r t (r sb >>> (dd &&& 31))) lt lw, m, p, p + 1, h, l, 0, lw) := by
  refine PRun.one hq hw hl (fun d S x hh => ?_)
  have e := p_sra (d := d) (S := tuA S) hf
  rw [hb, hc, hd, x.reg h2] at e
  have y := x.wrt ht (r sb >>> (dd &&& 31))
  exact ⟨_, Or.inl ⟨hk, e⟩, y.fin hl lw⟩
theorem r_sltu {w : Int32} (hq : q < 281984) (hw : m q = w) (hl : lt < 32) (hk : asK w = 0) (hf : w &&& 63 = 43) {sa sb : Nat} (ha : asA w = nI sa) (hb : asB w = nI sb) (hc : asC w = nI t) (h1 : sa < 32) (h2 : sb < 32) (ht : t < 32) (hv : (r sa + (-2147483648) < r sb + (-2147483648))) : PRun S0 1 (r, m, q, p, h, l, lt, lw) (wr (wr r t 1) lt lw, m, p, p + 1, h, l, 0, lw) := by
  refine PRun.one hq hw hl (fun d S x hh => ?_)
  have e := p_sltu (d := d) (S := tuA S) hf (by rw [ha, hb, x.reg h1, x.reg h2]; exact hv)
  rw [hc] at e
  have y := x.wrt ht 1
  exact ⟨_, Or.inl ⟨hk, e⟩, y.fin hl lw⟩
theorem r_sltun {w : Int32} (hq : q < 281984) (hw : m q = w) (hl : lt < 32) (hk : asK w = 0) (hf : w &&& 63 = 43) {sa sb : Nat} (ha : asA w = nI sa) (hb : asB w = nI sb) (hc : asC w = nI t) (h1 : sa < 32) (h2 : sb < 32) (ht : t < 32) (hv : ¬ (r sa + (-2147483648) < r sb + (-2147483648))) : PRun S0 1 (r, m, q, p, h, l, lt, lw) (wr (wr r t 0) lt lw, m, p, p + 1, h, l, 0, lw) := by
  refine PRun.one hq hw hl (fun d S x hh => ?_)
  have e := p_sltun (d := d) (S := tuA S) hf (by rw [ha, hb, x.reg h1, x.reg h2]; exact hv)
  rw [hc] at e
  have y := x.wrt ht 0
  exact ⟨_, Or.inl ⟨hk, e⟩, y.fin hl lw⟩
theorem r_mfhi {w : Int32} (hq : q < 281984) (hw : m q = w) (hl : lt < 32) (hk : asK w = 0) (hf : w &&& 63 = 16) (hc : asC w = nI t) (ht : t < 32) : PRun S0 1 (r, m, q, p, h, l, lt, lw) (wr (wr r t h) lt lw, m, p, p + 1, h, l, 0, lw) := by
  refine PRun.one hq hw hl (fun d S x hh => ?_)
  have e := p_mfhi (d := d) (S := tuA S) hf
  have e0 : (tuA S).1 11 5 = h := x.2.2.2.2.1
  rw [hc, e0] at e
  have y := x.wrt ht h
  exact ⟨_, Or.inl ⟨hk, e⟩, y.fin hl lw⟩
theorem r_mflo {w : Int32} (hq : q < 281984) (hw : m q = w) (hl : lt < 32) (hk : asK w = 0) (hf : w &&& 63 = 18) (hc : asC w = nI t) (ht : t < 32) : PRun S0 1 (r, m, q, p, h, l, lt, lw) (wr (wr r t l) lt lw, m, p, p + 1, h, l, 0, lw) := by
  refine PRun.one hq hw hl (fun d S x hh => ?_)
  have e := p_mflo (d := d) (S := tuA S) hf
  have e0 : (tuA S).1 11 6 = l := x.2.2.2.2.2.1
  rw [hc, e0] at e
  have y := x.wrt ht l
  exact ⟨_, Or.inl ⟨hk, e⟩, y.fin hl lw⟩
theorem r_mult {w : Int32} (hq : q < 281984) (hw : m q = w) (hl : lt < 32) (hk : asK w = 0) (hf : w &&& 63 = 24) {sa sb : Nat} (ha : asA w = nI sa) (hb : asB w = nI sb) (h1 : sa < 32) (h2 : sb < 32) : PRun S0 1 (r, m, q, p, h, l, lt, lw) (wr r lt lw, m, p, p + 1, (((r sa).toInt64 * (r sb).toInt64) >>> ((32 : Int32).toInt64 &&& 63)).toInt32, ((r sa).toInt64 * (r sb).toInt64).toInt32, 0, lw) := by
  refine PRun.one hq hw hl (fun d S x hh => ?_)
  have e := p_mult (d := d) (S := tuA S) hf
  rw [ha, hb, x.reg h1, x.reg h2] at e
  have y := x.hl ((((r sa).toInt64 * (r sb).toInt64) >>> ((32 : Int32).toInt64 &&& 63)).toInt32) (((r sa).toInt64 * (r sb).toInt64).toInt32)
  exact ⟨_, Or.inl ⟨hk, e⟩, y.fin hl lw⟩
theorem r_div {w : Int32} (hq : q < 281984) (hw : m q = w) (hl : lt < 32) (hk : asK w = 0) (hf : w &&& 63 = 26) {sa sb : Nat} (ha : asA w = nI sa) (hb : asB w = nI sb) (h1 : sa < 32) (h2 : sb < 32) (hz : ¬ r sb = 0) : PRun S0 1 (r, m, q, p, h, l, lt, lw) (wr r lt lw, m, p, p + 1, r sa - r sa / r sb * r sb, r sa / r sb, 0, lw) := by
  refine PRun.one hq hw hl (fun d S x hh => ?_)
  have e := p_div (d := d) (S := tuA S) hf (by rw [hb, x.reg h2]; exact hz)
  rw [ha, hb, x.reg h1, x.reg h2] at e
  have y := x.hl (r sa - r sa / r sb * r sb) (r sa / r sb)
  exact ⟨_, Or.inl ⟨hk, e⟩, y.fin hl lw⟩
theorem r_jr {w : Int32} (hq : q < 281984) (hw : m q = w) (hl : lt < 32) (hk : asK w = 0) (hf : w &&& 63 = 8) {sa : Nat} (ha : asA w = nI sa) (h1 : sa < 32) (hA : r sa = nI (4 * A)) : PRun S0 1 (r, m, q, p, h, l, lt, lw) (wr r lt lw, m, p, A, h, l, 0, lw) := by
  refine PRun.one hq hw hl (fun d S x hh => ?_)
  have e := p_jr (d := d) (S := tuA S) hf
  rw [ha, x.reg h1, hA] at e
  have y := x.aft A
  exact ⟨_, Or.inl ⟨hk, e⟩, y.fin hl lw⟩
theorem r_addiu {w : Int32} (hq : q < 281984) (hw : m q = w) (hl : lt < 32) (hk : asK w = 9) {sa : Nat} {i : Int32} (ha : asA w = nI sa) (hb : asB w = nI t) (hi : asS w = i) (h1 : sa < 32) (ht : t < 32) : PRun S0 1 (r, m, q, p, h, l, lt, lw) (wr (wr r t (r sa + i)) lt lw, m, p, p + 1, h, l, 0, lw) := by
  refine PRun.one hq hw hl (fun d S x hh => ?_)
  have e := p_addiu (d := d) (S := tuA S) (w := w)
  rw [ha, hb, hi, x.reg h1] at e
  have y := x.wrt ht (r sa + i)
  exact ⟨_, Or.inr (Or.inr (Or.inl ⟨9, hk, by decide, by decide, by decide, e⟩)), y.fin hl lw⟩
theorem r_ori {w : Int32} (hq : q < 281984) (hw : m q = w) (hl : lt < 32) (hk : asK w = 13) {sa : Nat} {i : Int32} (ha : asA w = nI sa) (hb : asB w = nI t) (hi : w &&& 65535 = i) (h1 : sa < 32) (ht : t < 32) : PRun S0 1 (r, m, q, p, h, l, lt, lw) (wr (wr r t (r sa ||| i)) lt lw, m, p, p + 1, h, l, 0, lw) := by
  refine PRun.one hq hw hl (fun d S x hh => ?_)
  have e := p_ori (d := d) (S := tuA S) (w := w)
  rw [ha, hb, hi, x.reg h1] at e
  have y := x.wrt ht (r sa ||| i)
  exact ⟨_, Or.inr (Or.inr (Or.inl ⟨13, hk, by decide, by decide, by decide, e⟩)), y.fin hl lw⟩
theorem r_lui {w : Int32} (hq : q < 281984) (hw : m q = w) (hl : lt < 32) (hk : asK w = 15) {i : Int32} (hb : asB w = nI t) (hi : w <<< ((16 : Int32) &&& 31) = i) (ht : t < 32) : PRun S0 1 (r, m, q, p, h, l, lt, lw) (wr (wr r t i) lt lw, m, p, p + 1, h, l, 0, lw) := by
  refine PRun.one hq hw hl (fun d S x hh => ?_)
  have e := p_lui (d := d) (S := tuA S) (w := w)
  rw [hb, hi] at e
  have y := x.wrt ht i
  exact ⟨_, Or.inr (Or.inr (Or.inl ⟨15, hk, by decide, by decide, by decide, e⟩)), y.fin hl lw⟩
theorem r_j {w : Int32} (hq : q < 281984) (hw : m q = w) (hl : lt < 32) (hk : asK w = 2) (hA : w &&& 67108863 = nI A) : PRun S0 1 (r, m, q, p, h, l, lt, lw) (wr r lt lw, m, p, A, h, l, 0, lw) := by
  refine PRun.one hq hw hl (fun d S x hh => ?_)
  have e := p_j (d := d) (S := tuA S) (w := w)
  rw [hA, show nI A * 4 = nI (4 * A) from by rw [Nat.mul_comm]; exact pk_mul A 4] at e
  have y := x.aft A
  exact ⟨_, Or.inr (Or.inr (Or.inr ⟨2, hk, by decide, by decide, by decide, e⟩)), y.fin hl lw⟩
theorem r_jal {w : Int32} (hq : q < 281984) (hw : m q = w) (hl : lt < 32) (hk : asK w = 3) (hA : w &&& 67108863 = nI A) : PRun S0 1 (r, m, q, p, h, l, lt, lw) (wr (wr r 31 (nI (4 * (q + 2)))) lt lw, m, p, A, h, l, 0, lw) := by
  refine PRun.one hq hw hl (fun d S x hh => ?_)
  have e := p_jal (d := d) (S := tuA S) (w := w)
  rw [hA, show nI A * 4 = nI (4 * A) from by rw [Nat.mul_comm]; exact pk_mul A 4, hh, show nI (4 * q) + 8 = nI (4 * (q + 2)) from nI_add (4 * q) 8] at e
  have y := (x.wrt (t := 31) (by decide) (nI (4 * (q + 2)))).aft A
  exact ⟨_, Or.inr (Or.inr (Or.inr ⟨3, hk, by decide, by decide, by decide, e⟩)), y.fin hl lw⟩
theorem r_beq {w : Int32} (hq : q < 281984) (hw : m q = w) (hl : lt < 32) (hk : asK w = 4) {sa sb : Nat} (ha : asA w = nI sa) (hb : asB w = nI sb) (h1 : sa < 32) (h2 : sb < 32) (hv : r sa = r sb) {off : Nat} (hi : asS w = nI off) : PRun S0 1 (r, m, q, p, h, l, lt, lw) (wr r lt lw, m, p, p + off, h, l, 0, lw) := by
  refine PRun.one hq hw hl (fun d S x hh => ?_)
  have e := p_beq (d := d) (S := tuA S) (w := w) (by rw [ha, hb, x.reg h1, x.reg h2]; exact hv)
  have e0 : (tuA S).1 11 3 = nI (4 * p) := x.2.2.1
  rw [e0, hi, show nI off * 4 = nI (4 * off) from by rw [Nat.mul_comm]; exact pk_mul off 4, nI_add, show 4 * p + 4 * off = 4 * (p + off) from by omega] at e
  have y := x.aft (p + off)
  exact ⟨_, Or.inr (Or.inr (Or.inr ⟨4, hk, by decide, by decide, by decide, e⟩)), y.fin hl lw⟩
theorem r_beqn {w : Int32} (hq : q < 281984) (hw : m q = w) (hl : lt < 32) (hk : asK w = 4) {sa sb : Nat} (ha : asA w = nI sa) (hb : asB w = nI sb) (h1 : sa < 32) (h2 : sb < 32) (hv : ¬ r sa = r sb) : PRun S0 1 (r, m, q, p, h, l, lt, lw) (wr r lt lw, m, p, p + 1, h, l, 0, lw) := by
  refine PRun.one hq hw hl (fun d S x hh => ?_)
  have e := p_beqn (d := d) (S := tuA S) (w := w) (by rw [ha, hb, x.reg h1, x.reg h2]; exact hv)
  have y := x
  exact ⟨_, Or.inr (Or.inr (Or.inr ⟨4, hk, by decide, by decide, by decide, e⟩)), y.fin hl lw⟩
theorem r_bne {w : Int32} (hq : q < 281984) (hw : m q = w) (hl : lt < 32) (hk : asK w = 5) {sa sb : Nat} (ha : asA w = nI sa) (hb : asB w = nI sb) (h1 : sa < 32) (h2 : sb < 32) (hv : ¬ r sa = r sb) {off : Nat} (hi : asS w = nI off) : PRun S0 1 (r, m, q, p, h, l, lt, lw) (wr r lt lw, m, p, p + off, h, l, 0, lw) := by
  refine PRun.one hq hw hl (fun d S x hh => ?_)
  have e := p_bne (d := d) (S := tuA S) (w := w) (by rw [ha, hb, x.reg h1, x.reg h2]; exact hv)
  have e0 : (tuA S).1 11 3 = nI (4 * p) := x.2.2.1
  rw [e0, hi, show nI off * 4 = nI (4 * off) from by rw [Nat.mul_comm]; exact pk_mul off 4, nI_add, show 4 * p + 4 * off = 4 * (p + off) from by omega] at e
  have y := x.aft (p + off)
  exact ⟨_, Or.inr (Or.inr (Or.inr ⟨5, hk, by decide, by decide, by decide, e⟩)), y.fin hl lw⟩
theorem r_bnen {w : Int32} (hq : q < 281984) (hw : m q = w) (hl : lt < 32) (hk : asK w = 5) {sa sb : Nat} (ha : asA w = nI sa) (hb : asB w = nI sb) (h1 : sa < 32) (h2 : sb < 32) (hv : r sa = r sb) : PRun S0 1 (r, m, q, p, h, l, lt, lw) (wr r lt lw, m, p, p + 1, h, l, 0, lw) := by
  refine PRun.one hq hw hl (fun d S x hh => ?_)
  have e := p_bnen (d := d) (S := tuA S) (w := w) (by rw [ha, hb, x.reg h1, x.reg h2]; exact hv)
  have y := x
  exact ⟨_, Or.inr (Or.inr (Or.inr ⟨5, hk, by decide, by decide, by decide, e⟩)), y.fin hl lw⟩
theorem r_bgez {w : Int32} (hq : q < 281984) (hw : m q = w) (hl : lt < 32) (hk : asK w = 1) {sa : Nat} (ha : asA w = nI sa) (hb : asB w = 1) (h1 : sa < 32) (hv : 0 ≤ r sa) {off : Nat} (hi : asS w = nI off) : PRun S0 1 (r, m, q, p, h, l, lt, lw) (wr r lt lw, m, p, p + off, h, l, 0, lw) := by
  refine PRun.one hq hw hl (fun d S x hh => ?_)
  have e := p_bgez (d := d) (S := tuA S) (w := w) hb (by rw [ha, x.reg h1]; exact hv)
  have e0 : (tuA S).1 11 3 = nI (4 * p) := x.2.2.1
  rw [e0, hi, show nI off * 4 = nI (4 * off) from by rw [Nat.mul_comm]; exact pk_mul off 4, nI_add, show 4 * p + 4 * off = 4 * (p + off) from by omega] at e
  have y := x.aft (p + off)
  exact ⟨_, Or.inr (Or.inr (Or.inr ⟨1, hk, by decide, by decide, by decide, e⟩)), y.fin hl lw⟩
theorem r_bgezn {w : Int32} (hq : q < 281984) (hw : m q = w) (hl : lt < 32) (hk : asK w = 1) {sa : Nat} (ha : asA w = nI sa) (hb : asB w = 1) (h1 : sa < 32) (hv : ¬ 0 ≤ r sa) : PRun S0 1 (r, m, q, p, h, l, lt, lw) (wr r lt lw, m, p, p + 1, h, l, 0, lw) := by
  refine PRun.one hq hw hl (fun d S x hh => ?_)
  have e := p_bgezn (d := d) (S := tuA S) (w := w) hb (by rw [ha, x.reg h1]; exact hv)
  have y := x
  exact ⟨_, Or.inr (Or.inr (Or.inr ⟨1, hk, by decide, by decide, by decide, e⟩)), y.fin hl lw⟩
theorem r_lw {w : Int32} (hq : q < 281984) (hw : m q = w) (hl : lt < 32) (hk : asK w = 35) {sa : Nat} {i : Int32} (ha : asA w = nI sa) (hb : asB w = nI t) (hi : asS w = i) (h1 : sa < 32) (ht : t < 32) (hA : (r sa + i) >>> ((2 : Int32) &&& 31) = nI k) (h4 : k < 281984) : PRun S0 1 (r, m, q, p, h, l, lt, lw) (wr r lt lw, m, p, p + 1, h, l, t, m k) := by
  refine PRun.one hq hw hl (fun d S x hh => ?_)
  have e := p_lw (d := d) (S := tuA S) (w := w)
  rw [ha, hb, hi, x.reg h1, hA, x.mat h4] at e
  have y := x.lat t (m k)
  exact ⟨_, Or.inr (Or.inl ⟨35, hk, by decide, by decide, e⟩), y.fin hl lw⟩
theorem r_sw {w : Int32} (hq : q < 281984) (hw : m q = w) (hl : lt < 32) (hk : asK w = 43) {sa : Nat} {i : Int32} (ha : asA w = nI sa) (hb : asB w = nI t) (hi : asS w = i) (h1 : sa < 32) (ht : t < 32) (hA : (r sa + i) >>> ((2 : Int32) &&& 31) = nI k) (h4 : k < 281984) : PRun S0 1 (r, m, q, p, h, l, lt, lw) (wr r lt lw, upd m k (r t), p, p + 1, h, l, 0, lw) := by
  refine PRun.one hq hw hl (fun d S x hh => ?_)
  have e := p_sw (d := d) (S := tuA S) (w := w)
  rw [ha, hb, hi, x.reg h1, hA, x.reg ht] at e
  have y := x.mem h4 (r t)
  exact ⟨_, Or.inr (Or.inl ⟨43, hk, by decide, by decide, e⟩), y.fin hl lw⟩
end
