/-! Runs of the function up to a stop, in the machine. -/
section XHL
/-- a site, by the words of ZA alone -/
theorem xSiteZ {R : Jvm.Room} {d : Nat} {s : State} {args : Array Value} {own : String} {i y' n kd : Nat} (hza : ∀ w ∈ ZA, w.before args s = true) (hN : NW nestM s) (hR : ∀ L, L ≤ 20 → (xRoom 40 d).frames + 1 ≤ R.frames ∧ 8 + (L + 11) + (xRoom 40 d).locals ≤ R.locals) (h : xSok own i (y', n, kd)) : xSite R s args own vwCl nmMth ZS (xRoom 40 d) i y' n kd := by
  obtain ⟨h1, h2, h3, h4, h5, h6⟩ := h
  have hG : GoodIn ZA (ZS y') := by
    intro w hw
    have hw2 : w ∈ ZA := by
      rcases List.mem_cons.mp hw with rfl | hw
      · exact h1
      · exact hw
    exact ⟨hw2, good_of_word (List.all_eq_true.mp zaGood w hw2)⟩
  have hcd : ∀ (h : hhX y' = none), ZS y' = Cond.code (nmMth y') (ccMth y') (MT y').1 (xrt (MT y').2.2.2.2.2.2) :: ZA := fun h => by unfold ZS cdW; rw [h]
  refine ⟨ccMth y', (MT y').1, xrt (MT y').2.2.2.2.2.2, ?_⟩
  rcases kd with _ | _ | ci
  · obtain ⟨a1, a2, a3⟩ := h6
    cases hh : hhX y' with
    | none => exact Or.inl ⟨callB_of n hza hG (hcd hh) rfl rfl (hza _ h2) (hza _ a1) ⟨h4, h5, a3⟩ (hR _ h3), hza _ a2⟩
    | some hx =>
      have e1 : cdW y' = Cond.codeWith (nmMth y') (ccMth y') (MT y').1 (xrt (MT y').2.2.2.2.2.2) hx := by unfold cdW; rw [hh]
      refine Or.inr ⟨hx, ⟨rfl, rfl, (hR _ h3).1, (hR _ h3).2, pay_in hza hG, by rw [← e1]; exact List.mem_cons_self⟩, by rw [← e1]; exact hza _ h1, hza _ h2, ⟨h4, h5⟩, fun sig h => ?_, hza _ a1, hza _ a2⟩
      rw [h] at a3
      exact (Option.some.inj a3).symm
  · obtain ⟨a0, ⟨host, a1⟩, a2, a3⟩ := h6
    exact ⟨host, va_cnB n hza hG (hcd a0) rfl rfl (hN _ a1) (hza _ h2) ⟨h4, h5, a3⟩ (hR _ h3), hza _ a2, trivial⟩
  · obtain ⟨a0, C, F, N, a1, a2, a3, a4, a5, a6⟩ := h6
    exact ⟨C, F, N, a1, callB_of (n - 1) hza hG (hcd a0) rfl rfl (hza _ h2) (hza _ a3) ⟨h4, h5, a6⟩ (hR _ h3), hza _ a4, hza _ a5⟩
theorem xTabLaw : xTab vwCl ZA RL cL_law (MT 332).2 := ⟨xins_of xdL_law, xFld_of (own := RL) (l := xfRL) (fun w h => h) xfokRL, fun i v h => xtab_of (l := xcRL) (P := fun i v => Cond.constant RL i v ∈ ZA) xcokRL i v h, fun i v h => xtab_of (l := xlRL) (P := fun i v => Cond.constantLong RL i v ∈ ZA) xlokRL i v h⟩
theorem xTabNum : xTab vwCl ZA RL cL_isNumber (MT 330).2 := ⟨xins_of xdL_isNumber, xFld_of (own := RL) (l := xfRL) (fun w h => h) xfokRL, fun i v h => xtab_of (l := xcRL) (P := fun i v => Cond.constant RL i v ∈ ZA) xcokRL i v h, fun i v h => xtab_of (l := xlRL) (P := fun i v => Cond.constantLong RL i v ∈ ZA) xlokRL i v h⟩
theorem xTabLex : xTab vwCl ZA RX4 cX4_init (MT 333).2 := ⟨xins_of xdX4_init, xFld_of (own := RX4) (l := xfRX4) (fun w h => h) xfokRX4, fun i v h => xtab_of (l := xcRX4) (P := fun i v => Cond.constant RX4 i v ∈ ZA) xcokRX4 i v h, fun i v h => xtab_of (l := xlRX4) (P := fun i v => Cond.constantLong RX4 i v ∈ ZA) xlokRX4 i v h⟩
theorem xSokLaw : ∀ i y2 n kd, (MT 332).2.2.2.2.2.1 i = some (y2, n, kd) → xSok RL i (y2, n, kd) := fun i y2 n kd h => xtab_of (l := xmRL) (P := fun i v => xSok RL i v) xsokRL i (y2, n, kd) h
theorem xSokNum : ∀ i y2 n kd, (MT 330).2.2.2.2.2.1 i = some (y2, n, kd) → xSok RL i (y2, n, kd) := fun i y2 n kd h => xtab_of (l := xmRL) (P := fun i v => xSok RL i v) xsokRL i (y2, n, kd) h
theorem xSokLex : ∀ i y2 n kd, (MT 333).2.2.2.2.2.1 i = some (y2, n, kd) → xSok RX4 i (y2, n, kd) := fun i y2 n kd h => xtab_of (l := xmRX4) (P := fun i v => xSok RX4 i v) xsokRX4 i (y2, n, kd) h
theorem xskL : xSk [.int, .byte, .long] skL := by
  intro i t n h
  have hall : skL.all (fun c => match c with | .inl q => decide (q.1 < 3) | .inr _ => true) = true := by decide +kernel
  have := of_decide_eq_true (List.all_eq_true.mp hall _ (List.mem_of_getElem? h))
  dsimp only at this
  match t, this with
  | 0, _ => exact ⟨rfl, by decide⟩
  | 1, _ => exact ⟨rfl, by decide⟩
  | 2, _ => exact ⟨rfl, by decide⟩
section
variable {p : Program} {l : Launch} {e : Env} {R : Jvm.Room} {s : State} {m : MethodId} {args : Array Value} {below : List Frame} {meth : Method} {c : Code} {Q : State → Prop} {k0 n0 : Nat}
variable {D : va_G} {A : Nat → Prop} {H0 : Heap} {ad : Nat → Nat} {cA : Nat → ClassId} {sk : List xC} {cc : ByteArray} {own : String} {d y : Nat} {so : Nat → Bool}
theorem xh_go (hsk : xSk [.int, .byte, .long] sk) (ht : xTab vwCl ZA own cc (MT y).2) (hm : ∀ i y2 n kd, (MT y).2.2.2.2.2.1 i = some (y2, n, kd) → xSok own i (y2, n, kd)) (hrm : k0 + 0 ≤ R.cells ∧ n0 + 0 ≤ R.slots) (hR : ∀ L, L ≤ 20 → (xRoom 40 d).frames + 1 ≤ R.frames ∧ 8 + (L + 11) + (xRoom 40 d).locals ≤ R.locals)
    (hx : p.tables.exec = Jvm.exec) (hb : c.code = cc) (hml : c.maxLocals = (MT y).1) (hown : s.vm.findClass own = some m.cls) (hza : ∀ w ∈ ZA, w.before args s = true) (hK : va_K D vwCl (xtys cA [.int, .byte, .long]) s) (hN : NW nestM s) (hA : ∀ q, H0.size ≤ q → A q)
    {f g : xF} (hf : XH sk MT d y so f g) (kk : xGo k0 n0 p l e R s m args below meth c Q D vwCl A H0 ad cA sk (MT y).1 g) : xGo k0 n0 p l e R s m args below meth c Q D vwCl A H0 ad cA sk (MT y).1 f := by
  obtain ⟨n, hn⟩ := hf
  exact xhrun_go (stop := so) hrm hx hb hml hown hza hK hN hA ht hsk (fun y' as' S' r' h' => xmetX hsk d y' as' S' r' h') (fun i y2 n kd hi => xSiteZ hza hN hR (hm i y2 n kd hi)) kk n _ hn
end
end XHL
