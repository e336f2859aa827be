/-! XF, third part: fields and rows; calls; returns; a method. -/
section XH
section
variable {k0 n0 : Nat} {p : Program} {l : Launch} {e : Env} {R : Room} {s : State} {m : MethodId} {args : Array Value} {below : List Frame} {meth : Method} {c : Code} {Q : State → Prop}
variable {D : va_G} {cl : List vw_C} {A : Nat → Prop} {H0 : Heap} {ad : Nat → Nat} {cA : Nat → ClassId} {sk : List xC} {nL pc : Nat} {cc : ByteArray} {own : String} {Ts : List Cond} {T : xT} {tl : List FieldType}
set_option maxHeartbeats 4000000 in
theorem xheap_go (hx : p.tables.exec = Jvm.exec) (hb : c.code = cc) (hown : s.vm.findClass own = some m.cls) (hts : ∀ w ∈ Ts, w.before args s = true) (hK : va_K D cl (xtys cA tl) s) (hfl : xFld cl Ts own T.2.1) (hsk : xSk tl sk)
    {q : Instr × Nat} (hd : decode cc pc = .ok q) {lv : xLV} {st st' : List Value} {S S' : xS} (h : xheap sk T st S q = some (st', S'))
    (kk : xGo k0 n0 p l e R s m args below meth c Q D cl A H0 ad cA sk nL (pc + xlen q, lv, st', S')) : xGo k0 n0 p l e R s m args below meth c Q D cl A H0 ad cA sk nL (pc, lv, st, S) := by
  intro H locs ls ⟨hP, hD, hS, hl⟩
  unfold xheap at h
  split at h
  · split at h
    · rename_i a r ci k tc hf
      split at h
      · rename_i c2 fs hs9
        split at h
        · rename_i hc
          split at h
          · rename_i d hd9
            obtain ⟨rfl, rfl⟩ := Prod.mk.inj (Option.some.inj h)
            subst hc
            obtain ⟨C, F, N, ty0, h1, h2, h3, h4, h5, h6, h7⟩ := hfl _ _ _ _ hf
            refine va_get (D := D) (v := xfv ad S a k d) hx hb hts h3 hown hK hP a (xW_get hs9) h1 k h2 (hts _ h4) (fun _ z => z) (xfs_get hd9) hd ?_
            have h8 := kk H locs ls ⟨hP, hD, hS, hl⟩
            rw [← xrv_fv ad S a k d]
            exact h8
          · cases h
        · cases h
      · cases h
    · cases h
  · split at h
    · rename_i x a r ci k tc hf
      split at h
      · rename_i c2 fs hs9
        split at h
        · rename_i hc
          obtain ⟨rfl, rfl⟩ := Prod.mk.inj (Option.some.inj h)
          obtain ⟨rfl, hk9, htc⟩ := hc
          obtain ⟨C, F, N, ty0, h1, h2, h3, h4, h5, h6, h7⟩ := hfl _ _ _ _ hf
          have hlt : k < (xfs ad S a fs).length := (List.getElem?_eq_some_iff.mp (xfs_get (ad := ad) (S := S) (i := a) hk9)).1
          have hn : narrow (xfty tc) (.int x) = .int x ∧ fits (xfty tc) (.int x) = true ∧ tc ≤ 2 := by
            rcases htc with rfl | ⟨rfl, rfl | rfl⟩
            · exact ⟨rfl, rfl, by decide⟩
            · exact ⟨by decide, by decide, by decide⟩
            · exact ⟨by decide, by decide, by decide⟩
          obtain ⟨hfin, hty⟩ := h7 hn.2.2
          refine va_put (D := D) (v := .int x) (ty := xfty tc) hx hb hts h3 ty0 h5 h6 hown hK hP hD hS a (xW_get hs9) h1 k h2 (hts _ h4) (fun _ z => z) hfin (by rw [h5 k h2, hty]) hn.1 hn.2.1 hlt hd (fun H1 locs1 hP1 hD1 hS1 => ?_)
          have e1 := xW_putI (ad := ad) (cA := cA) (S := S) (x := x) hs9 hk9
          exact kk H1 locs1 ls ⟨by rw [← e1]; exact hP1, by rw [← e1]; exact hD1, hS1, hl⟩
        · cases h
      · cases h
    · rename_i x a r ci k tc hf
      split at h
      · rename_i c2 fs hs9
        split at h
        · rename_i hc
          obtain ⟨rfl, rfl⟩ := Prod.mk.inj (Option.some.inj h)
          obtain ⟨rfl, hk9, rfl⟩ := hc
          obtain ⟨C, F, N, ty0, h1, h2, h3, h4, h5, h6, h7⟩ := hfl _ _ _ _ hf
          have hlt : k < (xfs ad S a fs).length := (List.getElem?_eq_some_iff.mp (xfs_get (ad := ad) (S := S) (i := a) hk9)).1
          obtain ⟨hfin, hty⟩ := h7 (Nat.le_refl 2)
          refine va_put (D := D) (v := .long x) (ty := .long) hx hb hts h3 ty0 h5 h6 hown hK hP hD hS a (xW_get hs9) h1 k h2 (hts _ h4) (fun _ z => z) hfin (by rw [h5 k h2, hty]; rfl) rfl rfl hlt hd (fun H1 locs1 hP1 hD1 hS1 => ?_)
          have e1 := xW_putL (ad := ad) (cA := cA) (S := S) (x := x) hs9 hk9
          exact kk H1 locs1 ls ⟨by rw [← e1]; exact hP1, by rw [← e1]; exact hD1, hS1, hl⟩
        · cases h
      · cases h
    · cases h
  · split at h
    · rename_i a r
      split at h
      · rename_i t n hs9
        obtain ⟨rfl, rfl⟩ := Prod.mk.inj (Option.some.inj h)
        exact va_alen (D := D) hx hb hK hP a t (xW_get hs9) (xtys_get (hsk _ _ _ hs9).1) rfl hd (kk H locs ls ⟨hP, hD, hS, hl⟩)
      · cases h
    · cases h
  · split at h
    · rename_i j a r
      split at h
      · rename_i n hs9
        split at h
        · rename_i hin
          obtain ⟨rfl, rfl⟩ := Prod.mk.inj (Option.some.inj h)
          exact va_iald (D := D) hx hb hK hP a 0 (xW_get hs9) (xtys_get (hsk _ _ _ hs9).1) (xin_in hin) hd (kk H locs ls ⟨hP, hD, hS, hl⟩)
        · cases h
      · cases h
    · cases h
  · split at h
    · rename_i j a r
      split at h
      · rename_i t n hs9
        split at h
        · rename_i hin
          obtain ⟨rfl, rfl⟩ := Prod.mk.inj (Option.some.inj h)
          obtain ⟨ht, hin⟩ := hin
          rcases ht with rfl | rfl
          · exact va_bald (D := D) hx hb hK hP a 1 (xW_get hs9) (xtys_get (hsk _ _ _ hs9).1) (xin_in hin) hd (kk H locs ls ⟨hP, hD, hS, hl⟩)
          · exact va_zald (D := D) hx hb hK hP a 3 (xW_get hs9) (xtys_get (hsk _ _ _ hs9).1) (xin_in hin) hd (kk H locs ls ⟨hP, hD, hS, hl⟩)
        · cases h
      · cases h
    · cases h
  · split at h
    · rename_i j a r
      split at h
      · rename_i n hs9
        split at h
        · rename_i hin
          obtain ⟨rfl, rfl⟩ := Prod.mk.inj (Option.some.inj h)
          exact va_lald (D := D) hx hb hK hP a 2 (xW_get hs9) (xtys_get (hsk _ _ _ hs9).1) (xin_in hin) hd (kk H locs ls ⟨hP, hD, hS, hl⟩)
        · cases h
      · cases h
    · cases h
  · split at h
    · rename_i x j a r
      split at h
      · rename_i n hs9
        split at h
        · rename_i hin
          obtain ⟨rfl, rfl⟩ := Prod.mk.inj (Option.some.inj h)
          refine va_iast (D := D) hx hb hK hP hD hS a 0 (xW_get hs9) (xtys_get (hsk _ _ _ hs9).1) (xin_in hin) hd (fun H1 locs1 hP1 hD1 hS1 => ?_)
          have e1 := xW_rowI (ad := ad) (cA := cA) (S := S) (k := j.toNatClampNeg) (x := x) hs9 (by decide)
          exact kk H1 locs1 ls ⟨by rw [← e1]; exact hP1, by rw [← e1]; exact hD1, hS1, hl⟩
        · cases h
      · cases h
    · cases h
  · split at h
    · rename_i x j a r
      split at h
      · rename_i t n hs9
        split at h
        · rename_i hin
          obtain ⟨rfl, rfl⟩ := Prod.mk.inj (Option.some.inj h)
          obtain ⟨ht, hin⟩ := hin
          rcases ht with rfl | rfl
          · refine va_bast (D := D) hx hb hK hP hD hS a 1 (xW_get hs9) (xtys_get (hsk _ _ _ hs9).1) (xin_in hin) hd (fun H1 locs1 hP1 hD1 hS1 => ?_)
            have e1 := xW_rowI (ad := ad) (cA := cA) (S := S) (k := j.toNatClampNeg) (x := vp_nar .byte x) hs9 (by decide)
            exact kk H1 locs1 ls ⟨by show va_P D cl (xW ad cA (xsetI S a j.toNatClampNeg (vp_nar .byte x)) sk) H1; rw [← e1]; exact hP1, by show va_D A (xW ad cA (xsetI S a j.toNatClampNeg (vp_nar .byte x)) sk); rw [← e1]; exact hD1, hS1, hl⟩
          · refine va_zast (D := D) hx hb hK hP hD hS a 3 (xW_get hs9) (xtys_get (hsk _ _ _ hs9).1) (xin_in hin) hd (fun H1 locs1 hP1 hD1 hS1 => ?_)
            have e1 := xW_rowI (ad := ad) (cA := cA) (S := S) (k := j.toNatClampNeg) (x := vp_nar .boolean x) hs9 (by decide)
            exact kk H1 locs1 ls ⟨by show va_P D cl (xW ad cA (xsetI S a j.toNatClampNeg (vp_nar .boolean x)) sk) H1; rw [← e1]; exact hP1, by show va_D A (xW ad cA (xsetI S a j.toNatClampNeg (vp_nar .boolean x)) sk); rw [← e1]; exact hD1, hS1, hl⟩
        · cases h
      · cases h
    · cases h
  · split at h
    · rename_i x j a r
      split at h
      · rename_i n hs9
        split at h
        · rename_i hin
          obtain ⟨rfl, rfl⟩ := Prod.mk.inj (Option.some.inj h)
          refine va_last (D := D) hx hb hK hP hD hS a 2 (xW_get hs9) (xtys_get (hsk _ _ _ hs9).1) (xin_in hin) hd (fun H1 locs1 hP1 hD1 hS1 => ?_)
          have e1 := xW_rowL (ad := ad) (cA := cA) (S := S) (k := j.toNatClampNeg) (x := x) hs9
          exact kk H1 locs1 ls ⟨by rw [← e1]; exact hP1, by rw [← e1]; exact hD1, hS1, hl⟩
        · cases h
      · cases h
    · cases h
  · cases h
end
end XH
