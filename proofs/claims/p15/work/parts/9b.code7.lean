/-! XF: rows, then what is proved of them. -/
theorem rX2_dec_0 {d : Nat} {lv : xLV} {st : List Value} {S : xS} {r : xO} : XL SK MT d 99 (0, lv, st, S) r ↔ xI (xlook lv 1) (fun x => XL SK MT d 99 (1, lv, .int x :: st, S) r) := X_ldI rfl rfl (fun _ => rfl) rfl rfl rfl rfl
theorem rX2_dec_1k72 {d : Nat} {lv : xLV} {st : List Value} {S : xS} {r : xO} : XL SK MT d 99 (1, lv, .int 72 :: st, S) r ↔ XL SK MT d 99 (96, lv, st, S) r := X_jump rfl rfl rfl
theorem rX2_dec_1k73 {d : Nat} {lv : xLV} {st : List Value} {S : xS} {r : xO} : XL SK MT d 99 (1, lv, .int 73 :: st, S) r ↔ XL SK MT d 99 (247, lv, st, S) r := X_jump rfl rfl rfl
theorem rX2_dec_1k74 {d : Nat} {lv : xLV} {st : List Value} {S : xS} {r : xO} : XL SK MT d 99 (1, lv, .int 74 :: st, S) r ↔ XL SK MT d 99 (247, lv, st, S) r := X_jump rfl rfl rfl
theorem rX2_dec_1k75 {d : Nat} {lv : xLV} {st : List Value} {S : xS} {r : xO} : XL SK MT d 99 (1, lv, .int 75 :: st, S) r ↔ XL SK MT d 99 (103, lv, st, S) r := X_jump rfl rfl rfl
theorem rX2_dec_1k76 {d : Nat} {lv : xLV} {st : List Value} {S : xS} {r : xO} : XL SK MT d 99 (1, lv, .int 76 :: st, S) r ↔ XL SK MT d 99 (111, lv, st, S) r := X_jump rfl rfl rfl
theorem rX2_dec_1k77 {d : Nat} {lv : xLV} {st : List Value} {S : xS} {r : xO} : XL SK MT d 99 (1, lv, .int 77 :: st, S) r ↔ XL SK MT d 99 (227, lv, st, S) r := X_jump rfl rfl rfl
theorem rX2_dec_1k78 {d : Nat} {lv : xLV} {st : List Value} {S : xS} {r : xO} : XL SK MT d 99 (1, lv, .int 78 :: st, S) r ↔ XL SK MT d 99 (240, lv, st, S) r := X_jump rfl rfl rfl
theorem rX2_dec_1k79 {d : Nat} {lv : xLV} {st : List Value} {S : xS} {r : xO} : XL SK MT d 99 (1, lv, .int 79 :: st, S) r ↔ XL SK MT d 99 (153, lv, st, S) r := X_jump rfl rfl rfl
theorem rX2_dec_1k80 {d : Nat} {lv : xLV} {st : List Value} {S : xS} {r : xO} : XL SK MT d 99 (1, lv, .int 80 :: st, S) r ↔ XL SK MT d 99 (247, lv, st, S) r := X_jump rfl rfl rfl
theorem rX2_dec_1k81 {d : Nat} {lv : xLV} {st : List Value} {S : xS} {r : xO} : XL SK MT d 99 (1, lv, .int 81 :: st, S) r ↔ XL SK MT d 99 (247, lv, st, S) r := X_jump rfl rfl rfl
theorem rX2_dec_1k82 {d : Nat} {lv : xLV} {st : List Value} {S : xS} {r : xO} : XL SK MT d 99 (1, lv, .int 82 :: st, S) r ↔ XL SK MT d 99 (183, lv, st, S) r := X_jump rfl rfl rfl
theorem rX2_dec_1k83 {d : Nat} {lv : xLV} {st : List Value} {S : xS} {r : xO} : XL SK MT d 99 (1, lv, .int 83 :: st, S) r ↔ XL SK MT d 99 (190, lv, st, S) r := X_jump rfl rfl rfl
theorem rX2_dec_1k84 {d : Nat} {lv : xLV} {st : List Value} {S : xS} {r : xO} : XL SK MT d 99 (1, lv, .int 84 :: st, S) r ↔ XL SK MT d 99 (247, lv, st, S) r := X_jump rfl rfl rfl
theorem rX2_dec_1k85 {d : Nat} {lv : xLV} {st : List Value} {S : xS} {r : xO} : XL SK MT d 99 (1, lv, .int 85 :: st, S) r ↔ XL SK MT d 99 (247, lv, st, S) r := X_jump rfl rfl rfl
theorem rX2_dec_1k86 {d : Nat} {lv : xLV} {st : List Value} {S : xS} {r : xO} : XL SK MT d 99 (1, lv, .int 86 :: st, S) r ↔ XL SK MT d 99 (247, lv, st, S) r := X_jump rfl rfl rfl
theorem rX2_dec_1k87 {d : Nat} {lv : xLV} {st : List Value} {S : xS} {r : xO} : XL SK MT d 99 (1, lv, .int 87 :: st, S) r ↔ XL SK MT d 99 (247, lv, st, S) r := X_jump rfl rfl rfl
theorem rX2_dec_1k88 {d : Nat} {lv : xLV} {st : List Value} {S : xS} {r : xO} : XL SK MT d 99 (1, lv, .int 88 :: st, S) r ↔ XL SK MT d 99 (247, lv, st, S) r := X_jump rfl rfl rfl
theorem rX2_dec_1k89 {d : Nat} {lv : xLV} {st : List Value} {S : xS} {r : xO} : XL SK MT d 99 (1, lv, .int 89 :: st, S) r ↔ XL SK MT d 99 (247, lv, st, S) r := X_jump rfl rfl rfl
theorem rX2_dec_1k90 {d : Nat} {lv : xLV} {st : List Value} {S : xS} {r : xO} : XL SK MT d 99 (1, lv, .int 90 :: st, S) r ↔ XL SK MT d 99 (247, lv, st, S) r := X_jump rfl rfl rfl
theorem rX2_dec_1k91 {d : Nat} {lv : xLV} {st : List Value} {S : xS} {r : xO} : XL SK MT d 99 (1, lv, .int 91 :: st, S) r ↔ XL SK MT d 99 (160, lv, st, S) r := X_jump rfl rfl rfl
theorem rX2_dec_1km1 {d : Nat} {lv : xLV} {st : List Value} {S : xS} {r : xO} : XL SK MT d 99 (1, lv, .int (-1) :: st, S) r ↔ XL SK MT d 99 (247, lv, st, S) r := X_jump rfl rfl rfl
theorem rX2_dec_1k0 {d : Nat} {lv : xLV} {st : List Value} {S : xS} {r : xO} : XL SK MT d 99 (1, lv, .int 0 :: st, S) r ↔ XL SK MT d 99 (247, lv, st, S) r := X_jump rfl rfl rfl
theorem rX2_dec_1k1 {d : Nat} {lv : xLV} {st : List Value} {S : xS} {r : xO} : XL SK MT d 99 (1, lv, .int 1 :: st, S) r ↔ XL SK MT d 99 (247, lv, st, S) r := X_jump rfl rfl rfl
theorem rX2_dec_1k2 {d : Nat} {lv : xLV} {st : List Value} {S : xS} {r : xO} : XL SK MT d 99 (1, lv, .int 2 :: st, S) r ↔ XL SK MT d 99 (247, lv, st, S) r := X_jump rfl rfl rfl
theorem rX2_dec_1k3 {d : Nat} {lv : xLV} {st : List Value} {S : xS} {r : xO} : XL SK MT d 99 (1, lv, .int 3 :: st, S) r ↔ XL SK MT d 99 (247, lv, st, S) r := X_jump rfl rfl rfl
theorem rX2_dec_1k4 {d : Nat} {lv : xLV} {st : List Value} {S : xS} {r : xO} : XL SK MT d 99 (1, lv, .int 4 :: st, S) r ↔ XL SK MT d 99 (247, lv, st, S) r := X_jump rfl rfl rfl
theorem rX2_dec_1k5 {d : Nat} {lv : xLV} {st : List Value} {S : xS} {r : xO} : XL SK MT d 99 (1, lv, .int 5 :: st, S) r ↔ XL SK MT d 99 (247, lv, st, S) r := X_jump rfl rfl rfl
theorem rX2_dec_1k6 {d : Nat} {lv : xLV} {st : List Value} {S : xS} {r : xO} : XL SK MT d 99 (1, lv, .int 6 :: st, S) r ↔ XL SK MT d 99 (247, lv, st, S) r := X_jump rfl rfl rfl
theorem rX2_dec_1k7 {d : Nat} {lv : xLV} {st : List Value} {S : xS} {r : xO} : XL SK MT d 99 (1, lv, .int 7 :: st, S) r ↔ XL SK MT d 99 (247, lv, st, S) r := X_jump rfl rfl rfl
theorem rX2_dec_1k8 {d : Nat} {lv : xLV} {st : List Value} {S : xS} {r : xO} : XL SK MT d 99 (1, lv, .int 8 :: st, S) r ↔ XL SK MT d 99 (247, lv, st, S) r := X_jump rfl rfl rfl
theorem rX2_dec_1k9 {d : Nat} {lv : xLV} {st : List Value} {S : xS} {r : xO} : XL SK MT d 99 (1, lv, .int 9 :: st, S) r ↔ XL SK MT d 99 (247, lv, st, S) r := X_jump rfl rfl rfl
theorem rX2_dec_1k10 {d : Nat} {lv : xLV} {st : List Value} {S : xS} {r : xO} : XL SK MT d 99 (1, lv, .int 10 :: st, S) r ↔ XL SK MT d 99 (247, lv, st, S) r := X_jump rfl rfl rfl
theorem rX2_dec_1k11 {d : Nat} {lv : xLV} {st : List Value} {S : xS} {r : xO} : XL SK MT d 99 (1, lv, .int 11 :: st, S) r ↔ XL SK MT d 99 (247, lv, st, S) r := X_jump rfl rfl rfl
theorem rX2_dec_1k12 {d : Nat} {lv : xLV} {st : List Value} {S : xS} {r : xO} : XL SK MT d 99 (1, lv, .int 12 :: st, S) r ↔ XL SK MT d 99 (247, lv, st, S) r := X_jump rfl rfl rfl
theorem rX2_dec_1k13 {d : Nat} {lv : xLV} {st : List Value} {S : xS} {r : xO} : XL SK MT d 99 (1, lv, .int 13 :: st, S) r ↔ XL SK MT d 99 (247, lv, st, S) r := X_jump rfl rfl rfl
theorem rX2_dec_1k14 {d : Nat} {lv : xLV} {st : List Value} {S : xS} {r : xO} : XL SK MT d 99 (1, lv, .int 14 :: st, S) r ↔ XL SK MT d 99 (247, lv, st, S) r := X_jump rfl rfl rfl
theorem rX2_dec_1k15 {d : Nat} {lv : xLV} {st : List Value} {S : xS} {r : xO} : XL SK MT d 99 (1, lv, .int 15 :: st, S) r ↔ XL SK MT d 99 (247, lv, st, S) r := X_jump rfl rfl rfl
theorem rX2_dec_1k16 {d : Nat} {lv : xLV} {st : List Value} {S : xS} {r : xO} : XL SK MT d 99 (1, lv, .int 16 :: st, S) r ↔ XL SK MT d 99 (247, lv, st, S) r := X_jump rfl rfl rfl
theorem rX2_dec_1k17 {d : Nat} {lv : xLV} {st : List Value} {S : xS} {r : xO} : XL SK MT d 99 (1, lv, .int 17 :: st, S) r ↔ XL SK MT d 99 (247, lv, st, S) r := X_jump rfl rfl rfl
theorem rX2_dec_1k18 {d : Nat} {lv : xLV} {st : List Value} {S : xS} {r : xO} : XL SK MT d 99 (1, lv, .int 18 :: st, S) r ↔ XL SK MT d 99 (247, lv, st, S) r := X_jump rfl rfl rfl
theorem rX2_dec_1k19 {d : Nat} {lv : xLV} {st : List Value} {S : xS} {r : xO} : XL SK MT d 99 (1, lv, .int 19 :: st, S) r ↔ XL SK MT d 99 (247, lv, st, S) r := X_jump rfl rfl rfl
theorem rX2_dec_1k20 {d : Nat} {lv : xLV} {st : List Value} {S : xS} {r : xO} : XL SK MT d 99 (1, lv, .int 20 :: st, S) r ↔ XL SK MT d 99 (247, lv, st, S) r := X_jump rfl rfl rfl
theorem rX2_dec_1k21 {d : Nat} {lv : xLV} {st : List Value} {S : xS} {r : xO} : XL SK MT d 99 (1, lv, .int 21 :: st, S) r ↔ XL SK MT d 99 (247, lv, st, S) r := X_jump rfl rfl rfl
theorem rX2_dec_1k22 {d : Nat} {lv : xLV} {st : List Value} {S : xS} {r : xO} : XL SK MT d 99 (1, lv, .int 22 :: st, S) r ↔ XL SK MT d 99 (247, lv, st, S) r := X_jump rfl rfl rfl
theorem rX2_dec_1k23 {d : Nat} {lv : xLV} {st : List Value} {S : xS} {r : xO} : XL SK MT d 99 (1, lv, .int 23 :: st, S) r ↔ XL SK MT d 99 (247, lv, st, S) r := X_jump rfl rfl rfl
theorem rX2_dec_1k24 {d : Nat} {lv : xLV} {st : List Value} {S : xS} {r : xO} : XL SK MT d 99 (1, lv, .int 24 :: st, S) r ↔ XL SK MT d 99 (247, lv, st, S) r := X_jump rfl rfl rfl
theorem rX2_dec_1k25 {d : Nat} {lv : xLV} {st : List Value} {S : xS} {r : xO} : XL SK MT d 99 (1, lv, .int 25 :: st, S) r ↔ XL SK MT d 99 (247, lv, st, S) r := X_jump rfl rfl rfl
theorem rX2_dec_1k26 {d : Nat} {lv : xLV} {st : List Value} {S : xS} {r : xO} : XL SK MT d 99 (1, lv, .int 26 :: st, S) r ↔ XL SK MT d 99 (247, lv, st, S) r := X_jump rfl rfl rfl
theorem rX2_dec_1k27 {d : Nat} {lv : xLV} {st : List Value} {S : xS} {r : xO} : XL SK MT d 99 (1, lv, .int 27 :: st, S) r ↔ XL SK MT d 99 (247, lv, st, S) r := X_jump rfl rfl rfl
theorem rX2_dec_1k28 {d : Nat} {lv : xLV} {st : List Value} {S : xS} {r : xO} : XL SK MT d 99 (1, lv, .int 28 :: st, S) r ↔ XL SK MT d 99 (247, lv, st, S) r := X_jump rfl rfl rfl
theorem rX2_dec_1k29 {d : Nat} {lv : xLV} {st : List Value} {S : xS} {r : xO} : XL SK MT d 99 (1, lv, .int 29 :: st, S) r ↔ XL SK MT d 99 (247, lv, st, S) r := X_jump rfl rfl rfl
theorem rX2_dec_1k30 {d : Nat} {lv : xLV} {st : List Value} {S : xS} {r : xO} : XL SK MT d 99 (1, lv, .int 30 :: st, S) r ↔ XL SK MT d 99 (247, lv, st, S) r := X_jump rfl rfl rfl
theorem rX2_dec_1k31 {d : Nat} {lv : xLV} {st : List Value} {S : xS} {r : xO} : XL SK MT d 99 (1, lv, .int 31 :: st, S) r ↔ XL SK MT d 99 (247, lv, st, S) r := X_jump rfl rfl rfl
theorem rX2_dec_1k32 {d : Nat} {lv : xLV} {st : List Value} {S : xS} {r : xO} : XL SK MT d 99 (1, lv, .int 32 :: st, S) r ↔ XL SK MT d 99 (247, lv, st, S) r := X_jump rfl rfl rfl
theorem rX2_dec_1k33 {d : Nat} {lv : xLV} {st : List Value} {S : xS} {r : xO} : XL SK MT d 99 (1, lv, .int 33 :: st, S) r ↔ XL SK MT d 99 (247, lv, st, S) r := X_jump rfl rfl rfl
theorem rX2_dec_1k34 {d : Nat} {lv : xLV} {st : List Value} {S : xS} {r : xO} : XL SK MT d 99 (1, lv, .int 34 :: st, S) r ↔ XL SK MT d 99 (247, lv, st, S) r := X_jump rfl rfl rfl
theorem rX2_dec_1k35 {d : Nat} {lv : xLV} {st : List Value} {S : xS} {r : xO} : XL SK MT d 99 (1, lv, .int 35 :: st, S) r ↔ XL SK MT d 99 (247, lv, st, S) r := X_jump rfl rfl rfl
theorem rX2_dec_1k36 {d : Nat} {lv : xLV} {st : List Value} {S : xS} {r : xO} : XL SK MT d 99 (1, lv, .int 36 :: st, S) r ↔ XL SK MT d 99 (247, lv, st, S) r := X_jump rfl rfl rfl
theorem rX2_dec_1k37 {d : Nat} {lv : xLV} {st : List Value} {S : xS} {r : xO} : XL SK MT d 99 (1, lv, .int 37 :: st, S) r ↔ XL SK MT d 99 (247, lv, st, S) r := X_jump rfl rfl rfl
theorem rX2_dec_1k38 {d : Nat} {lv : xLV} {st : List Value} {S : xS} {r : xO} : XL SK MT d 99 (1, lv, .int 38 :: st, S) r ↔ XL SK MT d 99 (247, lv, st, S) r := X_jump rfl rfl rfl
theorem rX2_dec_1k39 {d : Nat} {lv : xLV} {st : List Value} {S : xS} {r : xO} : XL SK MT d 99 (1, lv, .int 39 :: st, S) r ↔ XL SK MT d 99 (247, lv, st, S) r := X_jump rfl rfl rfl
theorem rX2_dec_1k40 {d : Nat} {lv : xLV} {st : List Value} {S : xS} {r : xO} : XL SK MT d 99 (1, lv, .int 40 :: st, S) r ↔ XL SK MT d 99 (247, lv, st, S) r := X_jump rfl rfl rfl
theorem rX2_dec_1k41 {d : Nat} {lv : xLV} {st : List Value} {S : xS} {r : xO} : XL SK MT d 99 (1, lv, .int 41 :: st, S) r ↔ XL SK MT d 99 (247, lv, st, S) r := X_jump rfl rfl rfl
theorem rX2_dec_1k42 {d : Nat} {lv : xLV} {st : List Value} {S : xS} {r : xO} : XL SK MT d 99 (1, lv, .int 42 :: st, S) r ↔ XL SK MT d 99 (247, lv, st, S) r := X_jump rfl rfl rfl
theorem rX2_dec_1k43 {d : Nat} {lv : xLV} {st : List Value} {S : xS} {r : xO} : XL SK MT d 99 (1, lv, .int 43 :: st, S) r ↔ XL SK MT d 99 (247, lv, st, S) r := X_jump rfl rfl rfl
theorem rX2_dec_1k44 {d : Nat} {lv : xLV} {st : List Value} {S : xS} {r : xO} : XL SK MT d 99 (1, lv, .int 44 :: st, S) r ↔ XL SK MT d 99 (247, lv, st, S) r := X_jump rfl rfl rfl
theorem rX2_dec_1k45 {d : Nat} {lv : xLV} {st : List Value} {S : xS} {r : xO} : XL SK MT d 99 (1, lv, .int 45 :: st, S) r ↔ XL SK MT d 99 (247, lv, st, S) r := X_jump rfl rfl rfl
theorem rX2_dec_1k46 {d : Nat} {lv : xLV} {st : List Value} {S : xS} {r : xO} : XL SK MT d 99 (1, lv, .int 46 :: st, S) r ↔ XL SK MT d 99 (247, lv, st, S) r := X_jump rfl rfl rfl
theorem rX2_dec_1k47 {d : Nat} {lv : xLV} {st : List Value} {S : xS} {r : xO} : XL SK MT d 99 (1, lv, .int 47 :: st, S) r ↔ XL SK MT d 99 (247, lv, st, S) r := X_jump rfl rfl rfl
theorem rX2_dec_1k48 {d : Nat} {lv : xLV} {st : List Value} {S : xS} {r : xO} : XL SK MT d 99 (1, lv, .int 48 :: st, S) r ↔ XL SK MT d 99 (247, lv, st, S) r := X_jump rfl rfl rfl
theorem rX2_dec_1k49 {d : Nat} {lv : xLV} {st : List Value} {S : xS} {r : xO} : XL SK MT d 99 (1, lv, .int 49 :: st, S) r ↔ XL SK MT d 99 (247, lv, st, S) r := X_jump rfl rfl rfl
theorem rX2_dec_1k50 {d : Nat} {lv : xLV} {st : List Value} {S : xS} {r : xO} : XL SK MT d 99 (1, lv, .int 50 :: st, S) r ↔ XL SK MT d 99 (247, lv, st, S) r := X_jump rfl rfl rfl
theorem rX2_dec_1k51 {d : Nat} {lv : xLV} {st : List Value} {S : xS} {r : xO} : XL SK MT d 99 (1, lv, .int 51 :: st, S) r ↔ XL SK MT d 99 (247, lv, st, S) r := X_jump rfl rfl rfl
theorem rX2_dec_1k52 {d : Nat} {lv : xLV} {st : List Value} {S : xS} {r : xO} : XL SK MT d 99 (1, lv, .int 52 :: st, S) r ↔ XL SK MT d 99 (247, lv, st, S) r := X_jump rfl rfl rfl
theorem rX2_dec_1k53 {d : Nat} {lv : xLV} {st : List Value} {S : xS} {r : xO} : XL SK MT d 99 (1, lv, .int 53 :: st, S) r ↔ XL SK MT d 99 (247, lv, st, S) r := X_jump rfl rfl rfl
theorem rX2_dec_1k54 {d : Nat} {lv : xLV} {st : List Value} {S : xS} {r : xO} : XL SK MT d 99 (1, lv, .int 54 :: st, S) r ↔ XL SK MT d 99 (247, lv, st, S) r := X_jump rfl rfl rfl
theorem rX2_dec_1k55 {d : Nat} {lv : xLV} {st : List Value} {S : xS} {r : xO} : XL SK MT d 99 (1, lv, .int 55 :: st, S) r ↔ XL SK MT d 99 (247, lv, st, S) r := X_jump rfl rfl rfl
theorem rX2_dec_1k56 {d : Nat} {lv : xLV} {st : List Value} {S : xS} {r : xO} : XL SK MT d 99 (1, lv, .int 56 :: st, S) r ↔ XL SK MT d 99 (247, lv, st, S) r := X_jump rfl rfl rfl
theorem rX2_dec_1k57 {d : Nat} {lv : xLV} {st : List Value} {S : xS} {r : xO} : XL SK MT d 99 (1, lv, .int 57 :: st, S) r ↔ XL SK MT d 99 (247, lv, st, S) r := X_jump rfl rfl rfl
theorem rX2_dec_1k58 {d : Nat} {lv : xLV} {st : List Value} {S : xS} {r : xO} : XL SK MT d 99 (1, lv, .int 58 :: st, S) r ↔ XL SK MT d 99 (247, lv, st, S) r := X_jump rfl rfl rfl
theorem rX2_dec_1k59 {d : Nat} {lv : xLV} {st : List Value} {S : xS} {r : xO} : XL SK MT d 99 (1, lv, .int 59 :: st, S) r ↔ XL SK MT d 99 (247, lv, st, S) r := X_jump rfl rfl rfl
theorem rX2_dec_1k60 {d : Nat} {lv : xLV} {st : List Value} {S : xS} {r : xO} : XL SK MT d 99 (1, lv, .int 60 :: st, S) r ↔ XL SK MT d 99 (247, lv, st, S) r := X_jump rfl rfl rfl
theorem rX2_dec_1k61 {d : Nat} {lv : xLV} {st : List Value} {S : xS} {r : xO} : XL SK MT d 99 (1, lv, .int 61 :: st, S) r ↔ XL SK MT d 99 (247, lv, st, S) r := X_jump rfl rfl rfl
theorem rX2_dec_1k62 {d : Nat} {lv : xLV} {st : List Value} {S : xS} {r : xO} : XL SK MT d 99 (1, lv, .int 62 :: st, S) r ↔ XL SK MT d 99 (247, lv, st, S) r := X_jump rfl rfl rfl
theorem rX2_dec_1k63 {d : Nat} {lv : xLV} {st : List Value} {S : xS} {r : xO} : XL SK MT d 99 (1, lv, .int 63 :: st, S) r ↔ XL SK MT d 99 (247, lv, st, S) r := X_jump rfl rfl rfl
theorem rX2_dec_1k64 {d : Nat} {lv : xLV} {st : List Value} {S : xS} {r : xO} : XL SK MT d 99 (1, lv, .int 64 :: st, S) r ↔ XL SK MT d 99 (247, lv, st, S) r := X_jump rfl rfl rfl
theorem rX2_dec_1k65 {d : Nat} {lv : xLV} {st : List Value} {S : xS} {r : xO} : XL SK MT d 99 (1, lv, .int 65 :: st, S) r ↔ XL SK MT d 99 (247, lv, st, S) r := X_jump rfl rfl rfl
theorem rX2_dec_1k66 {d : Nat} {lv : xLV} {st : List Value} {S : xS} {r : xO} : XL SK MT d 99 (1, lv, .int 66 :: st, S) r ↔ XL SK MT d 99 (247, lv, st, S) r := X_jump rfl rfl rfl
theorem rX2_dec_1k67 {d : Nat} {lv : xLV} {st : List Value} {S : xS} {r : xO} : XL SK MT d 99 (1, lv, .int 67 :: st, S) r ↔ XL SK MT d 99 (247, lv, st, S) r := X_jump rfl rfl rfl
theorem rX2_dec_1k68 {d : Nat} {lv : xLV} {st : List Value} {S : xS} {r : xO} : XL SK MT d 99 (1, lv, .int 68 :: st, S) r ↔ XL SK MT d 99 (247, lv, st, S) r := X_jump rfl rfl rfl
theorem rX2_dec_1k69 {d : Nat} {lv : xLV} {st : List Value} {S : xS} {r : xO} : XL SK MT d 99 (1, lv, .int 69 :: st, S) r ↔ XL SK MT d 99 (247, lv, st, S) r := X_jump rfl rfl rfl
theorem rX2_dec_1k70 {d : Nat} {lv : xLV} {st : List Value} {S : xS} {r : xO} : XL SK MT d 99 (1, lv, .int 70 :: st, S) r ↔ XL SK MT d 99 (247, lv, st, S) r := X_jump rfl rfl rfl
theorem rX2_dec_1k71 {d : Nat} {lv : xLV} {st : List Value} {S : xS} {r : xO} : XL SK MT d 99 (1, lv, .int 71 :: st, S) r ↔ XL SK MT d 99 (247, lv, st, S) r := X_jump rfl rfl rfl
theorem rX2_dec_1 {d : Nat} {lv : xLV} {st : List Value} {S : xS} {r : xO} {x : Int32} : XL SK MT d 99 (1, lv, .int x :: st, S) r ↔ xTo (xsw 1 246 72 91 #[95, 246, 246, 102, 110, 226, 239, 152, 246, 246, 182, 189, 246, 246, 246, 246, 246, 246, 246, 159] x) (fun t => XL SK MT d 99 (t, lv, st, S) r) := X_sw rfl
theorem rX2_dec_96 {d : Nat} {lv : xLV} {st : List Value} {S : xS} {r : xO} : XL SK MT d 99 (96, lv, st, S) r ↔ xA (xlook lv 0) (fun x => XL SK MT d 99 (97, lv, .ref x :: st, S) r) := X_ldA rfl rfl (fun _ => rfl) rfl rfl rfl rfl
theorem rX2_dec_97 {d : Nat} {lv : xLV} {S : xS} {r : xO} : XL SK MT d 99 (97, lv, [.ref 6], S) r ↔ xK (XC SK MT d 100 [.ref 6] S) (fun v S => XL SK MT d 99 (100, lv, v.toList ++ [], S) r) := X_inv (n := 1) (kd := 4) (st0 := [.ref 6]) rfl (Or.inr ⟨rfl, rfl⟩) rfl (Nat.le_of_ble_eq_true rfl) (Nat.le_of_ble_eq_true rfl) (by decide) rfl
theorem rX2_dec_100 {d : Nat} {lv : xLV} {st : List Value} {S : xS} {r : xO} : XL SK MT d 99 (100, lv, st, S) r ↔ XL SK MT d 99 (247, lv, st, S) r := X_jump rfl rfl rfl
theorem rX2_dec_103 {d : Nat} {lv : xLV} {st : List Value} {S : xS} {r : xO} : XL SK MT d 99 (103, lv, st, S) r ↔ xA (xlook lv 0) (fun x => XL SK MT d 99 (104, lv, .ref x :: st, S) r) := X_ldA rfl rfl (fun _ => rfl) rfl rfl rfl rfl
theorem rX2_dec_104 {d : Nat} {lv : xLV} {st : List Value} {S : xS} {r : xO} : XL SK MT d 99 (104, lv, st, S) r ↔ xI (xlook lv 2) (fun x => XL SK MT d 99 (105, lv, .int x :: st, S) r) := X_ldI rfl rfl (fun _ => rfl) rfl rfl rfl rfl
theorem rX2_dec_105 {d : Nat} {lv : xLV} {S : xS} {r : xO} {x1 : Int32} : XL SK MT d 99 (105, lv, [.int x1, .ref 6], S) r ↔ xK (XC SK MT d 101 [.ref 6, .int x1] S) (fun v S => XL SK MT d 99 (108, lv, v.toList ++ [], S) r) := X_inv (n := 2) (kd := 4) (st0 := [.int x1, .ref 6]) rfl (Or.inr ⟨rfl, rfl⟩) rfl (Nat.le_of_ble_eq_true rfl) (Nat.le_of_ble_eq_true rfl) (by decide) rfl
theorem rX2_dec_108 {d : Nat} {lv : xLV} {st : List Value} {S : xS} {r : xO} : XL SK MT d 99 (108, lv, st, S) r ↔ XL SK MT d 99 (247, lv, st, S) r := X_jump rfl rfl rfl
theorem rX2_dec_111 {d : Nat} {lv : xLV} {st : List Value} {S : xS} {r : xO} : XL SK MT d 99 (111, lv, st, S) r ↔ xA (xlook lv 0) (fun x => XL SK MT d 99 (112, lv, .ref x :: st, S) r) := X_ldA rfl rfl (fun _ => rfl) rfl rfl rfl rfl
theorem rX2_dec_112 {d : Nat} {lv : xLV} {st : List Value} {S : xS} {r : xO} : XL SK MT d 99 (112, lv, st, S) r ↔ xA (xlook lv 0) (fun x => XL SK MT d 99 (113, lv, .ref x :: st, S) r) := X_ldA rfl rfl (fun _ => rfl) rfl rfl rfl rfl
theorem rX2_dec_113 {d : Nat} {lv : xLV} {st : List Value} {S : xS} {r : xO} : XL SK MT d 99 (113, lv, .ref 6 :: st, S) r ↔ XL SK MT d 99 (116, lv, .ref 2 :: st, S) r := X_heap rfl rfl rfl rfl rfl
theorem rX2_dec_116 {d : Nat} {lv : xLV} {st : List Value} {S : xS} {r : xO} : XL SK MT d 99 (116, lv, .ref 2 :: st, S) r ↔ XL SK MT d 99 (119, lv, .ref 26 :: st, S) r := X_heap rfl rfl rfl rfl rfl
theorem rX2_dec_119 {d : Nat} {lv : xLV} {st : List Value} {S : xS} {r : xO} : XL SK MT d 99 (119, lv, st, S) r ↔ xI (xlook lv 2) (fun x => XL SK MT d 99 (120, lv, .int x :: st, S) r) := X_ldI rfl rfl (fun _ => rfl) rfl rfl rfl rfl
theorem rX2_dec_120 {d : Nat} {lv : xLV} {S : xS} {r : xO} {x1 : Nat} {x2 : Int32} {u1 : Nat} : XL SK MT d 99 (120, lv, [.int x2, .ref x1, .ref u1], S) r ↔ xK (XC SK MT d 303 [.ref x1, .int x2] S) (fun v S => XL SK MT d 99 (123, lv, v.toList ++ [.ref u1], S) r) := X_inv (n := 2) (kd := 1) (st0 := [.int x2, .ref x1, .ref u1]) rfl (Or.inl ⟨rfl, rfl⟩) rfl (Nat.le_of_ble_eq_true rfl) (Nat.le_of_ble_eq_true rfl) (by decide) rfl
theorem rX2_dec_123 {d : Nat} {lv : xLV} {st : List Value} {S : xS} {r : xO} {x : Int32} : XL SK MT d 99 (123, lv, .int x :: .ref 6 :: st, S) r ↔ XL SK MT d 99 (126, lv, st, (xsetI S 6 15 x)) r := X_heap rfl rfl rfl rfl rfl
theorem rX2_dec_126 {d : Nat} {lv : xLV} {st : List Value} {S : xS} {r : xO} : XL SK MT d 99 (126, lv, st, S) r ↔ xA (xlook lv 0) (fun x => XL SK MT d 99 (127, lv, .ref x :: st, S) r) := X_ldA rfl rfl (fun _ => rfl) rfl rfl rfl rfl
theorem rX2_dec_127 {d : Nat} {lv : xLV} {st : List Value} {S : xS} {r : xO} : XL SK MT d 99 (127, lv, st, S) r ↔ XL SK MT d 99 (128, lv, .int 4 :: st, S) r := X_pure rfl rfl rfl
theorem rX2_dec_128 {d : Nat} {lv : xLV} {st : List Value} {S : xS} {r : xO} {x : Int32} : XL SK MT d 99 (128, lv, .int x :: .ref 6 :: st, S) r ↔ XL SK MT d 99 (131, lv, st, (xsetI S 6 16 x)) r := X_heap rfl rfl rfl rfl rfl
theorem rX2_dec_131 {d : Nat} {lv : xLV} {st : List Value} {S : xS} {r : xO} : XL SK MT d 99 (131, lv, st, S) r ↔ xA (xlook lv 0) (fun x => XL SK MT d 99 (132, lv, .ref x :: st, S) r) := X_ldA rfl rfl (fun _ => rfl) rfl rfl rfl rfl
theorem rX2_dec_132 {d : Nat} {lv : xLV} {st : List Value} {S : xS} {r : xO} : XL SK MT d 99 (132, lv, st, S) r ↔ xA (xlook lv 0) (fun x => XL SK MT d 99 (133, lv, .ref x :: st, S) r) := X_ldA rfl rfl (fun _ => rfl) rfl rfl rfl rfl
theorem rX2_dec_133 {d : Nat} {lv : xLV} {st : List Value} {S : xS} {r : xO} : XL SK MT d 99 (133, lv, .ref 6 :: st, S) r ↔ XL SK MT d 99 (136, lv, .ref 2 :: st, S) r := X_heap rfl rfl rfl rfl rfl
theorem rX2_dec_136 {d : Nat} {lv : xLV} {st : List Value} {S : xS} {r : xO} : XL SK MT d 99 (136, lv, .ref 2 :: st, S) r ↔ XL SK MT d 99 (139, lv, .ref 24 :: st, S) r := X_heap rfl rfl rfl rfl rfl
theorem rX2_dec_139 {d : Nat} {lv : xLV} {st : List Value} {S : xS} {r : xO} : XL SK MT d 99 (139, lv, st, S) r ↔ xI (xlook lv 2) (fun x => XL SK MT d 99 (140, lv, .int x :: st, S) r) := X_ldI rfl rfl (fun _ => rfl) rfl rfl rfl rfl
theorem rX2_dec_140 {d : Nat} {lv : xLV} {S : xS} {r : xO} {x1 : Nat} {x2 : Int32} {u1 : Nat} : XL SK MT d 99 (140, lv, [.int x2, .ref x1, .ref u1], S) r ↔ xK (XC SK MT d 303 [.ref x1, .int x2] S) (fun v S => XL SK MT d 99 (143, lv, v.toList ++ [.ref u1], S) r) := X_inv (n := 2) (kd := 1) (st0 := [.int x2, .ref x1, .ref u1]) rfl (Or.inl ⟨rfl, rfl⟩) rfl (Nat.le_of_ble_eq_true rfl) (Nat.le_of_ble_eq_true rfl) (by decide) rfl
theorem rX2_dec_143 {d : Nat} {lv : xLV} {S : xS} {r : xO} {x1 : Int32} : XL SK MT d 99 (143, lv, [.int x1, .ref 6], S) r ↔ xK (XC SK MT d 73 [.ref 6, .int x1] S) (fun v S => XL SK MT d 99 (146, lv, v.toList ++ [], S) r) := X_inv (n := 2) (kd := 4) (st0 := [.int x1, .ref 6]) rfl (Or.inr ⟨rfl, rfl⟩) rfl (Nat.le_of_ble_eq_true rfl) (Nat.le_of_ble_eq_true rfl) (by decide) rfl
theorem rX2_dec_146 {d : Nat} {lv : xLV} {st : List Value} {S : xS} {r : xO} : XL SK MT d 99 (146, lv, st, S) r ↔ xA (xlook lv 0) (fun x => XL SK MT d 99 (147, lv, .ref x :: st, S) r) := X_ldA rfl rfl (fun _ => rfl) rfl rfl rfl rfl
theorem rX2_dec_147 {d : Nat} {lv : xLV} {S : xS} {r : xO} : XL SK MT d 99 (147, lv, [.ref 6], S) r ↔ xK (XC SK MT d 102 [.ref 6] S) (fun v S => XL SK MT d 99 (150, lv, v.toList ++ [], S) r) := X_inv (n := 1) (kd := 4) (st0 := [.ref 6]) rfl (Or.inr ⟨rfl, rfl⟩) rfl (Nat.le_of_ble_eq_true rfl) (Nat.le_of_ble_eq_true rfl) (by decide) rfl
theorem rX2_dec_150 {d : Nat} {lv : xLV} {st : List Value} {S : xS} {r : xO} : XL SK MT d 99 (150, lv, st, S) r ↔ XL SK MT d 99 (247, lv, st, S) r := X_jump rfl rfl rfl
theorem rX2_dec_153 {d : Nat} {lv : xLV} {st : List Value} {S : xS} {r : xO} : XL SK MT d 99 (153, lv, st, S) r ↔ xA (xlook lv 0) (fun x => XL SK MT d 99 (154, lv, .ref x :: st, S) r) := X_ldA rfl rfl (fun _ => rfl) rfl rfl rfl rfl
theorem rX2_dec_154 {d : Nat} {lv : xLV} {S : xS} {r : xO} : XL SK MT d 99 (154, lv, [.ref 6], S) r ↔ xK (XC SK MT d 91 [.ref 6] S) (fun v S => XL SK MT d 99 (157, lv, v.toList ++ [], S) r) := X_inv (n := 1) (kd := 4) (st0 := [.ref 6]) rfl (Or.inr ⟨rfl, rfl⟩) rfl (Nat.le_of_ble_eq_true rfl) (Nat.le_of_ble_eq_true rfl) (by decide) rfl
theorem rX2_dec_157 {d : Nat} {lv : xLV} {st : List Value} {S : xS} {r : xO} : XL SK MT d 99 (157, lv, st, S) r ↔ XL SK MT d 99 (247, lv, st, S) r := X_jump rfl rfl rfl
theorem rX2_dec_160 {d : Nat} {lv : xLV} {st : List Value} {S : xS} {r : xO} : XL SK MT d 99 (160, lv, st, S) r ↔ xA (xlook lv 0) (fun x => XL SK MT d 99 (161, lv, .ref x :: st, S) r) := X_ldA rfl rfl (fun _ => rfl) rfl rfl rfl rfl
theorem rX2_dec_161 {d : Nat} {lv : xLV} {st : List Value} {S : xS} {r : xO} : XL SK MT d 99 (161, lv, st, S) r ↔ XL SK MT d 99 (162, lv, .int 0 :: st, S) r := X_pure rfl rfl rfl
theorem rX2_dec_162 {d : Nat} {lv : xLV} {st : List Value} {S : xS} {r : xO} {x : Int32} : XL SK MT d 99 (162, lv, .int x :: .ref 6 :: st, S) r ↔ XL SK MT d 99 (165, lv, st, (xsetI S 6 18 x)) r := X_heap rfl rfl rfl rfl rfl
theorem rX2_dec_165 {d : Nat} {lv : xLV} {st : List Value} {S : xS} {r : xO} : XL SK MT d 99 (165, lv, st, S) r ↔ xA (xlook lv 0) (fun x => XL SK MT d 99 (166, lv, .ref x :: st, S) r) := X_ldA rfl rfl (fun _ => rfl) rfl rfl rfl rfl
theorem rX2_dec_166 {d : Nat} {lv : xLV} {st : List Value} {S : xS} {r : xO} : XL SK MT d 99 (166, lv, st, S) r ↔ xA (xlook lv 0) (fun x => XL SK MT d 99 (167, lv, .ref x :: st, S) r) := X_ldA rfl rfl (fun _ => rfl) rfl rfl rfl rfl
theorem rX2_dec_167 {d : Nat} {lv : xLV} {st : List Value} {S : xS} {r : xO} : XL SK MT d 99 (167, lv, .ref 6 :: st, S) r ↔ XL SK MT d 99 (170, lv, .ref 2 :: st, S) r := X_heap rfl rfl rfl rfl rfl
theorem rX2_dec_170 {d : Nat} {lv : xLV} {st : List Value} {S : xS} {r : xO} : XL SK MT d 99 (170, lv, .ref 2 :: st, S) r ↔ XL SK MT d 99 (173, lv, .ref 23 :: st, S) r := X_heap rfl rfl rfl rfl rfl
theorem rX2_dec_173 {d : Nat} {lv : xLV} {st : List Value} {S : xS} {r : xO} : XL SK MT d 99 (173, lv, st, S) r ↔ xI (xlook lv 2) (fun x => XL SK MT d 99 (174, lv, .int x :: st, S) r) := X_ldI rfl rfl (fun _ => rfl) rfl rfl rfl rfl
theorem rX2_dec_174 {d : Nat} {lv : xLV} {S : xS} {r : xO} {x1 : Nat} {x2 : Int32} {u1 : Nat} : XL SK MT d 99 (174, lv, [.int x2, .ref x1, .ref u1], S) r ↔ xK (XC SK MT d 303 [.ref x1, .int x2] S) (fun v S => XL SK MT d 99 (177, lv, v.toList ++ [.ref u1], S) r) := X_inv (n := 2) (kd := 1) (st0 := [.int x2, .ref x1, .ref u1]) rfl (Or.inl ⟨rfl, rfl⟩) rfl (Nat.le_of_ble_eq_true rfl) (Nat.le_of_ble_eq_true rfl) (by decide) rfl
theorem rX2_dec_177 {d : Nat} {lv : xLV} {S : xS} {r : xO} {x1 : Int32} : XL SK MT d 99 (177, lv, [.int x1, .ref 6], S) r ↔ xK (XC SK MT d 103 [.ref 6, .int x1] S) (fun v S => XL SK MT d 99 (180, lv, v.toList ++ [], S) r) := X_inv (n := 2) (kd := 4) (st0 := [.int x1, .ref 6]) rfl (Or.inr ⟨rfl, rfl⟩) rfl (Nat.le_of_ble_eq_true rfl) (Nat.le_of_ble_eq_true rfl) (by decide) rfl
theorem rX2_dec_180 {d : Nat} {lv : xLV} {st : List Value} {S : xS} {r : xO} : XL SK MT d 99 (180, lv, st, S) r ↔ XL SK MT d 99 (247, lv, st, S) r := X_jump rfl rfl rfl
theorem rX2_dec_183 {d : Nat} {lv : xLV} {st : List Value} {S : xS} {r : xO} : XL SK MT d 99 (183, lv, st, S) r ↔ xA (xlook lv 0) (fun x => XL SK MT d 99 (184, lv, .ref x :: st, S) r) := X_ldA rfl rfl (fun _ => rfl) rfl rfl rfl rfl
theorem rX2_dec_184 {d : Nat} {lv : xLV} {S : xS} {r : xO} : XL SK MT d 99 (184, lv, [.ref 6], S) r ↔ xK (XC SK MT d 92 [.ref 6] S) (fun v S => XL SK MT d 99 (187, lv, v.toList ++ [], S) r) := X_inv (n := 1) (kd := 4) (st0 := [.ref 6]) rfl (Or.inr ⟨rfl, rfl⟩) rfl (Nat.le_of_ble_eq_true rfl) (Nat.le_of_ble_eq_true rfl) (by decide) rfl
theorem rX2_dec_187 {d : Nat} {lv : xLV} {st : List Value} {S : xS} {r : xO} : XL SK MT d 99 (187, lv, st, S) r ↔ XL SK MT d 99 (247, lv, st, S) r := X_jump rfl rfl rfl
theorem rX2_dec_190 {d : Nat} {lv : xLV} {st : List Value} {S : xS} {r : xO} : XL SK MT d 99 (190, lv, st, S) r ↔ xA (xlook lv 0) (fun x => XL SK MT d 99 (191, lv, .ref x :: st, S) r) := X_ldA rfl rfl (fun _ => rfl) rfl rfl rfl rfl
theorem rX2_dec_191 {d : Nat} {lv : xLV} {S : xS} {r : xO} : XL SK MT d 99 (191, lv, [.ref 6], S) r ↔ xK (XC SK MT d 72 [.ref 6] S) (fun v S => XL SK MT d 99 (194, lv, v.toList ++ [], S) r) := X_inv (n := 1) (kd := 4) (st0 := [.ref 6]) rfl (Or.inr ⟨rfl, rfl⟩) rfl (Nat.le_of_ble_eq_true rfl) (Nat.le_of_ble_eq_true rfl) (by decide) rfl
theorem rX2_dec_194 {d : Nat} {lv : xLV} {st : List Value} {S : xS} {r : xO} {x : Int32} : XL SK MT d 99 (194, lv, .int x :: st, S) r ↔ XL SK MT d 99 (195, xst1 lv 3 (.int x), st, S) r := X_pure rfl rfl rfl
theorem rX2_dec_195 {d : Nat} {lv : xLV} {st : List Value} {S : xS} {r : xO} : XL SK MT d 99 (195, lv, st, S) r ↔ xA (xlook lv 0) (fun x => XL SK MT d 99 (196, lv, .ref x :: st, S) r) := X_ldA rfl rfl (fun _ => rfl) rfl rfl rfl rfl
theorem rX2_dec_196 {d : Nat} {lv : xLV} {st : List Value} {S : xS} {r : xO} : XL SK MT d 99 (196, lv, st, S) r ↔ XL SK MT d 99 (198, lv, .int 13 :: st, S) r := X_pure rfl rfl rfl
theorem rX2_dec_198 {d : Nat} {lv : xLV} {st : List Value} {S : xS} {r : xO} : XL SK MT d 99 (198, lv, st, S) r ↔ XL SK MT d 99 (199, lv, .int 0 :: st, S) r := X_pure rfl rfl rfl
theorem rX2_dec_199 {d : Nat} {lv : xLV} {st : List Value} {S : xS} {r : xO} : XL SK MT d 99 (199, lv, st, S) r ↔ XL SK MT d 99 (200, lv, .int 0 :: st, S) r := X_pure rfl rfl rfl
theorem rX2_dec_200 {d : Nat} {lv : xLV} {S : xS} {r : xO} {x1 : Int32} {x2 : Int32} {x3 : Int32} : XL SK MT d 99 (200, lv, [.int x3, .int x2, .int x1, .ref 6], S) r ↔ xK (XC SK MT d 70 [.ref 6, .int x1, .int x2, .int x3] S) (fun v S => XL SK MT d 99 (203, lv, v.toList ++ [], S) r) := X_inv (n := 4) (kd := 4) (st0 := [.int x3, .int x2, .int x1, .ref 6]) rfl (Or.inr ⟨rfl, rfl⟩) rfl (Nat.le_of_ble_eq_true rfl) (Nat.le_of_ble_eq_true rfl) (by decide) rfl
theorem rX2_dec_203 {d : Nat} {lv : xLV} {st : List Value} {S : xS} {r : xO} {x : Int32} : XL SK MT d 99 (203, lv, .int x :: st, S) r ↔ XL SK MT d 99 (204, lv, st, S) r := X_pure rfl rfl rfl
theorem rX2_dec_204 {d : Nat} {lv : xLV} {st : List Value} {S : xS} {r : xO} : XL SK MT d 99 (204, lv, st, S) r ↔ xA (xlook lv 0) (fun x => XL SK MT d 99 (205, lv, .ref x :: st, S) r) := X_ldA rfl rfl (fun _ => rfl) rfl rfl rfl rfl
theorem riX2_dec_205 {d : Nat} {lv : xLV} {st : List Value} {S : xS} {r : xO} {x : Int32} : XL SK MT d 99 (205, lv, .int x :: st, S) r ↔ XL SK MT d 99 (206, lv, .int x :: .int x :: st, S) r := X_pure rfl rfl rfl
theorem rX2_dec_205 {d : Nat} {lv : xLV} {st : List Value} {S : xS} {r : xO} {x : Nat} : XL SK MT d 99 (205, lv, .ref x :: st, S) r ↔ XL SK MT d 99 (206, lv, .ref x :: .ref x :: st, S) r := X_pure rfl rfl rfl
theorem rX2_dec_206 {d : Nat} {lv : xLV} {st : List Value} {S : xS} {r : xO} : XL SK MT d 99 (206, lv, .ref 6 :: st, S) r ↔ XL SK MT d 99 (209, lv, .int (S.1 6 16) :: st, S) r := X_heap rfl rfl rfl rfl rfl
theorem rX2_dec_209 {d : Nat} {lv : xLV} {st : List Value} {S : xS} {r : xO} : XL SK MT d 99 (209, lv, st, S) r ↔ xA (xlook lv 0) (fun x => XL SK MT d 99 (210, lv, .ref x :: st, S) r) := X_ldA rfl rfl (fun _ => rfl) rfl rfl rfl rfl
theorem rX2_dec_210 {d : Nat} {lv : xLV} {S : xS} {r : xO} {u1 : Int32} {u2 : Nat} : XL SK MT d 99 (210, lv, [.ref 6, .int u1, .ref u2], S) r ↔ xK (XC SK MT d 72 [.ref 6] S) (fun v S => XL SK MT d 99 (213, lv, v.toList ++ [.int u1, .ref u2], S) r) := X_inv (n := 1) (kd := 4) (st0 := [.ref 6, .int u1, .ref u2]) rfl (Or.inr ⟨rfl, rfl⟩) rfl (Nat.le_of_ble_eq_true rfl) (Nat.le_of_ble_eq_true rfl) (by decide) rfl
theorem rX2_dec_213 {d : Nat} {lv : xLV} {st : List Value} {S : xS} {r : xO} : XL SK MT d 99 (213, lv, st, S) r ↔ XL SK MT d 99 (214, lv, .int 1 :: st, S) r := X_pure rfl rfl rfl
theorem rX2_dec_214 {d : Nat} {lv : xLV} {st : List Value} {S : xS} {r : xO} {x z : Int32} : XL SK MT d 99 (214, lv, .int z :: .int x :: st, S) r ↔ XL SK MT d 99 (215, lv, .int (x + z) :: st, S) r := X_pure rfl rfl rfl
theorem rX2_dec_215 {d : Nat} {lv : xLV} {st : List Value} {S : xS} {r : xO} {x z : Int32} : XL SK MT d 99 (215, lv, .int z :: .int x :: st, S) r ↔ XL SK MT d 99 (216, lv, .int (x - z) :: st, S) r := X_pure rfl rfl rfl
theorem rX2_dec_216 {d : Nat} {lv : xLV} {st : List Value} {S : xS} {r : xO} {x : Int32} : XL SK MT d 99 (216, lv, .int x :: .ref 6 :: st, S) r ↔ XL SK MT d 99 (219, lv, st, (xsetI S 6 16 x)) r := X_heap rfl rfl rfl rfl rfl
theorem rX2_dec_219 {d : Nat} {lv : xLV} {st : List Value} {S : xS} {r : xO} : XL SK MT d 99 (219, lv, st, S) r ↔ xA (xlook lv 0) (fun x => XL SK MT d 99 (220, lv, .ref x :: st, S) r) := X_ldA rfl rfl (fun _ => rfl) rfl rfl rfl rfl
theorem rX2_dec_220 {d : Nat} {lv : xLV} {st : List Value} {S : xS} {r : xO} : XL SK MT d 99 (220, lv, st, S) r ↔ xI (xlook lv 3) (fun x => XL SK MT d 99 (221, lv, .int x :: st, S) r) := X_ldI rfl rfl (fun _ => rfl) rfl rfl rfl rfl
theorem rX2_dec_221 {d : Nat} {lv : xLV} {S : xS} {r : xO} {x1 : Int32} : XL SK MT d 99 (221, lv, [.int x1, .ref 6], S) r ↔ xK (XC SK MT d 94 [.ref 6, .int x1] S) (fun v S => XL SK MT d 99 (224, lv, v.toList ++ [], S) r) := X_inv (n := 2) (kd := 4) (st0 := [.int x1, .ref 6]) rfl (Or.inr ⟨rfl, rfl⟩) rfl (Nat.le_of_ble_eq_true rfl) (Nat.le_of_ble_eq_true rfl) (by decide) rfl
theorem rX2_dec_224 {d : Nat} {lv : xLV} {st : List Value} {S : xS} {r : xO} : XL SK MT d 99 (224, lv, st, S) r ↔ XL SK MT d 99 (247, lv, st, S) r := X_jump rfl rfl rfl
theorem rX2_dec_227 {d : Nat} {lv : xLV} {st : List Value} {S : xS} {r : xO} : XL SK MT d 99 (227, lv, st, S) r ↔ xA (xlook lv 0) (fun x => XL SK MT d 99 (228, lv, .ref x :: st, S) r) := X_ldA rfl rfl (fun _ => rfl) rfl rfl rfl rfl
theorem rX2_dec_228 {d : Nat} {lv : xLV} {st : List Value} {S : xS} {r : xO} : XL SK MT d 99 (228, lv, st, S) r ↔ XL SK MT d 99 (230, lv, .int 21 :: st, S) r := X_pure rfl rfl rfl
theorem rX2_dec_230 {d : Nat} {lv : xLV} {st : List Value} {S : xS} {r : xO} : XL SK MT d 99 (230, lv, st, S) r ↔ XL SK MT d 99 (232, lv, .int 18 :: st, S) r := X_pure rfl rfl rfl
theorem rX2_dec_232 {d : Nat} {lv : xLV} {st : List Value} {S : xS} {r : xO} : XL SK MT d 99 (232, lv, st, S) r ↔ XL SK MT d 99 (233, lv, .int 0 :: st, S) r := X_pure rfl rfl rfl
theorem rX2_dec_233 {d : Nat} {lv : xLV} {S : xS} {r : xO} {x1 : Int32} {x2 : Int32} {x3 : Int32} : XL SK MT d 99 (233, lv, [.int x3, .int x2, .int x1, .ref 6], S) r ↔ xK (XC SK MT d 70 [.ref 6, .int x1, .int x2, .int x3] S) (fun v S => XL SK MT d 99 (236, lv, v.toList ++ [], S) r) := X_inv (n := 4) (kd := 4) (st0 := [.int x3, .int x2, .int x1, .ref 6]) rfl (Or.inr ⟨rfl, rfl⟩) rfl (Nat.le_of_ble_eq_true rfl) (Nat.le_of_ble_eq_true rfl) (by decide) rfl
theorem rX2_dec_236 {d : Nat} {lv : xLV} {st : List Value} {S : xS} {r : xO} {x : Int32} : XL SK MT d 99 (236, lv, .int x :: st, S) r ↔ XL SK MT d 99 (237, lv, st, S) r := X_pure rfl rfl rfl
theorem rX2_dec_237 {d : Nat} {lv : xLV} {st : List Value} {S : xS} {r : xO} : XL SK MT d 99 (237, lv, st, S) r ↔ XL SK MT d 99 (247, lv, st, S) r := X_jump rfl rfl rfl
theorem rX2_dec_240 {d : Nat} {lv : xLV} {st : List Value} {S : xS} {r : xO} : XL SK MT d 99 (240, lv, st, S) r ↔ xA (xlook lv 0) (fun x => XL SK MT d 99 (241, lv, .ref x :: st, S) r) := X_ldA rfl rfl (fun _ => rfl) rfl rfl rfl rfl
theorem rX2_dec_241 {d : Nat} {lv : xLV} {S : xS} {r : xO} : XL SK MT d 99 (241, lv, [.ref 6], S) r ↔ xK (XC SK MT d 90 [.ref 6] S) (fun v S => XL SK MT d 99 (244, lv, v.toList ++ [], S) r) := X_inv (n := 1) (kd := 4) (st0 := [.ref 6]) rfl (Or.inr ⟨rfl, rfl⟩) rfl (Nat.le_of_ble_eq_true rfl) (Nat.le_of_ble_eq_true rfl) (by decide) rfl
theorem rX2_dec_244 {d : Nat} {lv : xLV} {st : List Value} {S : xS} {r : xO} : XL SK MT d 99 (244, lv, st, S) r ↔ XL SK MT d 99 (247, lv, st, S) r := X_jump rfl rfl rfl
theorem rX2_dec_247 {d : Nat} {lv : xLV} {S : xS} {r : xO} : XL SK MT d 99 (247, lv, [], S) r ↔ (none, S) = r := X_ret rfl rfl rfl rfl rfl rfl

/-! Coder: a val declaration. -/
def exE (px py : Nat) (a : Int32 × Int32) (cs : List Oa) : List Or3 := atO px py a :: chO px py cs
def exO (px py b dep : Nat) : Ex → List Or3
  | .inl a => [atO px py a]
  | .inr (a, cs, none) => exE px py a cs
  | .inr (a, cs, some _) => (18, nI (b + (exE px py a cs).length + 3), 0) :: (exE px py a cs ++ haO b (exE px py a cs).length dep py)
/-- what may stand, and where x and y are -/
def ExV (S : xS) (xm ym px py : Nat) : Ex → Prop
  | .inl a => a.1 = 27
  | .inr b => (WH S xm px ∧ WH S ym py) ∧ atV b.1 ∧ OaV b.2.1 ∧ (∃ c cs, b.2.1 = c :: cs) ∧ b.2.1.length ≤ 3 ∧ (b.2.2 = none ∨ b.2.2 = some (37, 52))
theorem chO_len (px py : Nat) (cs : List Oa) : (chO px py cs).length = 2 * cs.length := by
  cases cs with
  | nil => rfl
  | cons c cs => show (oaO px py c.1.1 cs).length + 1 = _; rw [oaO_len, List.length_cons]; omega
set_option maxHeartbeats 4000000 in
set_option maxRecDepth 100000 in
theorem cd_ex {d xm ym px py : Nat} {S : xS} {os : List Or3} {dep : Nat} {hl : List Int32} {done todo : List Mk} {e : Ex} (hm : MK S (done ++ ((exM e).map (mkL xm ym) ++ todo))) (hL : (done ++ ((exM e).map (mkL xm ym) ++ todo)).length ≤ 10240) (h : CT S os dep hl) (hn : os.length < 30000) (hh : hl.length < 10) (he : ExV S xm ym px py e) :
    ∃ S1, CdRun (d + 4) ((exM e).map (mkL xm ym)) done S S1 ∧ CT S1 (os ++ exO px py os.length dep e) (dep + 1) hl ∧ FrX S S1 := by
  have K : ∀ {ds ts : List Mk} {m : Mk}, (ds ++ m :: ts).length ≤ 10240 → ds.length < 10240 := fun h => by rw [List.length_append, List.length_cons] at h; omega
  match e, he with
  | .inl (q, v), he =>
    obtain rfl : q = 27 := he
    have m1 : MK S (done ++ (1, 0, -1) :: ((3, v, -1) :: todo)) := hm
    have l1 : (done ++ (1, 0, -1) :: ((3, v, -1) :: todo)).length ≤ 10240 := hL
    have r1 := cd_skip (d := d + 1) m1 l1
    have m2 := mk1 m1
    have l2 := ln1 l1
    obtain ⟨S2, p2, c2, f2⟩ := cs_num (d := d) (K l2) h (by omega) (v := v) m2.at.2.1
    have r2 : CdRun (d + 4) [(3, v, -1)] _ S S2 := CdRun.one (fun r hr => cd_plain m2 l2 (Or.inr (Or.inr (Or.inl rfl))) p2 hr)
    exact ⟨S2, r1.app r2, c2, f2.1⟩
  | .inr (a, cs0, ha), ⟨⟨hx, hy⟩, hv, ho, ⟨c, cs, hcs⟩, h3, hh2⟩ =>
    obtain rfl : cs0 = c :: cs := hcs
    have h3' : (c :: cs).length ≤ 3 := h3
    rw [List.length_cons] at h3'
    have hel : (exE px py a (c :: cs)).length = 2 * cs.length + 3 := by show (chO px py (c :: cs)).length + 1 = _; rw [chO_len, List.length_cons]; omega
    rcases hh2 with hh2 | hh2
    · obtain rfl : ha = none := hh2
      have m1 : MK S (done ++ (1, 0, -1) :: ((1, 0, -1) :: (mkL xm ym (atM a.1 a.2) :: ((chM (c :: cs)).map (mkL xm ym) ++ todo)))) := hm
      have l1 : (done ++ (1, 0, -1) :: ((1, 0, -1) :: (mkL xm ym (atM a.1 a.2) :: ((chM (c :: cs)).map (mkL xm ym) ++ todo)))).length ≤ 10240 := hL
      have r1 := cd_skip (d := d + 1) m1 l1
      have m2 := mk1 m1
      have l2 := ln1 l1
      have r2 := cd_skip (d := d + 1) m2 l2
      have m3 := mk1 m2
      have l3 := ln1 l2
      obtain ⟨S3, r3, c3, f3⟩ := cd_atom (d := d) m3 l3 h (by omega) hv hx hy
      have m4 := f3.1.MK (mk1 m3)
      obtain ⟨S4, r4, c4, f4⟩ := cd_ch (d := d) m4 (ln1 l3) c3 (by rw [List.length_append, List.length_singleton]; omega) ho (hx.X f3.1) (hy.X f3.1)
      refine ⟨S4, r1.app (r2.app (r3.app r4)), ?_, f3.1.trans f4.1⟩
      rw [List.append_assoc] at c4
      exact c4
    · obtain rfl : ha = some (37, 52) := hh2
      have e0 : (exM (.inr (a, c :: cs, some (37, 52)))).map (mkL xm ym) ++ todo = (1, 0, -1) :: ((2, 0, -1) :: (mkL xm ym (atM a.1 a.2) :: ((chM (c :: cs)).map (mkL xm ym) ++ (haL ym ++ todo)))) := by
        show (1, 0, -1) :: ((2, 0, -1) :: (mkL xm ym (atM a.1 a.2) :: ((chM (c :: cs) ++ haT).map (mkL xm ym) ++ todo))) = _
        rw [List.map_append, List.append_assoc, haL_eq]
      have e0b : (exM (.inr (a, c :: cs, some (37, 52)))).map (mkL xm ym) = [(1, 0, -1)] ++ ([(2, 0, -1)] ++ ([mkL xm ym (atM a.1 a.2)] ++ ((chM (c :: cs)).map (mkL xm ym) ++ haL ym))) := by
        show (1, 0, -1) :: ((2, 0, -1) :: (mkL xm ym (atM a.1 a.2) :: ((chM (c :: cs) ++ haT).map (mkL xm ym)))) = _
        rw [List.map_append, haL_eq]; rfl
      rw [e0] at hm hL
      have r1 := cd_skip (d := d + 1) hm hL
      have m2 := mk1 hm
      have l2 := ln1 hL
      obtain ⟨S2, p2, c2, f2⟩ := cs_try (d := d + 1) (K l2) h (by omega) (by omega)
      have r2 : CdRun (d + 4) [(2, 0, -1)] _ S S2 := CdRun.one (fun r hr => cd_plain m2 l2 (Or.inr (Or.inl rfl)) p2 hr)
      have m3 := f2.1.MK (mk1 m2)
      have l3 := ln1 l2
      have hx2 := hx.X f2.1
      have hy2 := hy.X f2.1
      obtain ⟨S3, r3, c3, f3⟩ := cd_atom (d := d) m3 l3 c2 (by rw [List.length_append, List.length_singleton]; omega) hv hx2 hy2
      have m4 := f3.1.MK (mk1 m3)
      have l4 := ln1 l3
      obtain ⟨S4, r4, c4, f4⟩ := cd_ch (d := d) m4 l4 c3 (by rw [List.length_append, List.length_append, List.length_singleton, List.length_singleton]; omega) ho (hx2.X f3.1) (hy2.X f3.1)
      have e4 : os ++ [(18, 0, 0)] ++ [atO px py a] ++ chO px py (c :: cs) = os ++ (18, 0, 0) :: exE px py a (c :: cs) := by
        unfold exE
        simp only [List.append_assoc, List.cons_append, List.nil_append]
      rw [e4] at c4
      have m5 := f4.1.MK m4
      rw [← List.append_assoc] at m5
      have l5 := l4
      rw [← List.append_assoc] at l5
      obtain ⟨S5, r5, c5, f5⟩ := cd_ha (d := d) m5 l5 c4 (by rw [hel]; omega) (by omega) ((hy2.X f3.1).X f4.1)
      refine ⟨S5, ?_, c5, f2.1.trans (f3.1.trans (f4.1.trans f5))⟩
      rw [e0b]
      exact r1.app (r2.app (r3.app (r4.app r5)))
def lnO (px py b dep : Nat) (e : Ex) : List Or3 := exO px py b dep e ++ [(25, nI dep, 0), (30, 0, 0), (31, 1, 0)]
theorem cs_dec {d k : Nat} {S S1 : xS} (h : XC SK MT d 100 [.ref 6] S = some (none, S1)) : XC SK MT (d + 1) 99 [.ref 6, .int 72, .int (nI k)] S = some (none, S1) := by
  rw [XC_iff]
  refine ⟨Nat.le_of_ble_eq_true rfl, ?_⟩
  show XL SK MT d 99 (0, [some (.ref 6), some (.int 72), some (.int (nI k)), none], [], S) _
  simp (config := { decide := true }) only [rX2_dec_0, rX2_dec_1k72, rX2_dec_1k73, rX2_dec_1k74, rX2_dec_1k75, rX2_dec_1k76, rX2_dec_1k77, rX2_dec_1k78, rX2_dec_1k79, rX2_dec_1k80, rX2_dec_1k81, rX2_dec_1k82, rX2_dec_1k83, rX2_dec_1k84, rX2_dec_1k85, rX2_dec_1k86, rX2_dec_1k87, rX2_dec_1k88, rX2_dec_1k89, rX2_dec_1k90, rX2_dec_1k91, rX2_dec_1km1, rX2_dec_1k0, rX2_dec_1k1, rX2_dec_1k2, rX2_dec_1k3, rX2_dec_1k4, rX2_dec_1k5, rX2_dec_1k6, rX2_dec_1k7, rX2_dec_1k8, rX2_dec_1k9, rX2_dec_1k10, rX2_dec_1k11, rX2_dec_1k12, rX2_dec_1k13, rX2_dec_1k14, rX2_dec_1k15, rX2_dec_1k16, rX2_dec_1k17, rX2_dec_1k18, rX2_dec_1k19, rX2_dec_1k20, rX2_dec_1k21, rX2_dec_1k22, rX2_dec_1k23, rX2_dec_1k24, rX2_dec_1k25, rX2_dec_1k26, rX2_dec_1k27, rX2_dec_1k28, rX2_dec_1k29, rX2_dec_1k30, rX2_dec_1k31, rX2_dec_1k32, rX2_dec_1k33, rX2_dec_1k34, rX2_dec_1k35, rX2_dec_1k36, rX2_dec_1k37, rX2_dec_1k38, rX2_dec_1k39, rX2_dec_1k40, rX2_dec_1k41, rX2_dec_1k42, rX2_dec_1k43, rX2_dec_1k44, rX2_dec_1k45, rX2_dec_1k46, rX2_dec_1k47, rX2_dec_1k48, rX2_dec_1k49, rX2_dec_1k50, rX2_dec_1k51, rX2_dec_1k52, rX2_dec_1k53, rX2_dec_1k54, rX2_dec_1k55, rX2_dec_1k56, rX2_dec_1k57, rX2_dec_1k58, rX2_dec_1k59, rX2_dec_1k60, rX2_dec_1k61, rX2_dec_1k62, rX2_dec_1k63, rX2_dec_1k64, rX2_dec_1k65, rX2_dec_1k66, rX2_dec_1k67, rX2_dec_1k68, rX2_dec_1k69, rX2_dec_1k70, rX2_dec_1k71, rX2_dec_96, rX2_dec_97, rX2_dec_100, rX2_dec_103, rX2_dec_104, rX2_dec_105, rX2_dec_108, rX2_dec_111, rX2_dec_112, rX2_dec_113, rX2_dec_116, rX2_dec_119, rX2_dec_120, rX2_dec_123, rX2_dec_126, rX2_dec_127, rX2_dec_128, rX2_dec_131, rX2_dec_132, rX2_dec_133, rX2_dec_136, rX2_dec_139, rX2_dec_140, rX2_dec_143, rX2_dec_146, rX2_dec_147, rX2_dec_150, rX2_dec_153, rX2_dec_154, rX2_dec_157, rX2_dec_160, rX2_dec_161, rX2_dec_162, rX2_dec_165, rX2_dec_166, rX2_dec_167, rX2_dec_170, rX2_dec_173, rX2_dec_174, rX2_dec_177, rX2_dec_180, rX2_dec_183, rX2_dec_184, rX2_dec_187, rX2_dec_190, rX2_dec_191, rX2_dec_194, rX2_dec_195, rX2_dec_196, rX2_dec_198, rX2_dec_199, rX2_dec_200, rX2_dec_203, rX2_dec_204, riX2_dec_205, rX2_dec_205, rX2_dec_206, rX2_dec_209, rX2_dec_210, rX2_dec_213, rX2_dec_214, rX2_dec_215, rX2_dec_216, rX2_dec_219, rX2_dec_220, rX2_dec_221, rX2_dec_224, rX2_dec_227, rX2_dec_228, rX2_dec_230, rX2_dec_232, rX2_dec_233, rX2_dec_236, rX2_dec_237, rX2_dec_240, rX2_dec_241, rX2_dec_244, rX2_dec_247, ↓reduceIte, m1_le, m1_lt, m1_eq, ofInt_m1, ex_ret, Int32.reduceAdd, Int32.reduceSub, Int32.reduceMul, Int32.reduceLT, Int32.reduceLE, xsI, Nat.reduceEqDiff, and_false, false_and, and_true, true_and, if_true, if_false, ite_true, ite_false, xlook_0, xlook_s, xI_int, xA_ref, xJ_long, xK_some, xRow_row, xTo_some, xst1, xclr, List.set_cons_zero, List.set_cons_succ, xsum_nil, xsum_int, xsum_ref, xsum_long, Option.toList_some, Option.toList_none, List.nil_append, List.cons_append, h]
theorem exV_X {S S1 : xS} {xm ym px py : Nat} {e : Ex} (h : ExV S xm ym px py e) (hf : FrX S S1) : ExV S1 xm ym px py e := by
  match e, h with
  | .inl a, h => exact h
  | .inr b, ⟨⟨hx, hy⟩, h⟩ => exact ⟨⟨hx.X hf, hy.X hf⟩, h⟩
set_option maxHeartbeats 4000000 in
set_option maxRecDepth 100000 in
theorem cd_line {d x xm ym px py : Nat} {S : xS} {os : List Or3} {dep : Nat} {done todo : List Mk} {e : Ex} (hx : x = 51 ∨ x = 52) (hm : MK S (done ++ ((deM done.length (nI x, e)).map (mkL xm ym) ++ todo))) (hL : (done ++ ((deM done.length (nI x, e)).map (mkL xm ym) ++ todo)).length ≤ 10000) (h : CT S os dep []) (hn : os.length < 20000) (hd : dep < 3000) (he : ExV S xm ym px py e) :
    ∃ S1, CdRun (d + 6) ((deM done.length (nI x, e)).map (mkL xm ym)) done S S1 ∧ CT S1 (os ++ lnO px py os.length dep e) (dep + 2) [] ∧ WH S1 (done.length + 2) (dep + 1) ∧ (∀ m p, ¬ m = done.length + 2 → WH S m p → WH S1 m p) ∧ FrV S S1 := by
  have hx2 : mkL xm ym (45, nI x, -1) = (45, nI x, 0) := by unfold mkL lv; rcases hx with rfl | rfl <;> rfl
  have e0 : (deM done.length (nI x, e)).map (mkL xm ym) = [(70, 1, nI (done.length + 3)), (40, 0, -1), (45, nI x, 0), (71, 0, -1)] ++ ((exM e).map (mkL xm ym) ++ [(72, 1, -1)]) := by
    unfold deM
    rw [List.map_cons, List.map_cons, List.map_cons, List.map_cons, List.map_append, hx2]
    rfl
  rw [e0] at hm hL ⊢
  have m1 : MK S (done ++ (70, 1, nI (done.length + 3)) :: ([(40, 0, -1), (45, nI x, 0), (71, 0, -1)] ++ ((exM e).map (mkL xm ym) ++ ([(72, 1, -1)] ++ todo)))) := by
    rw [List.append_assoc, List.append_assoc] at hm; exact hm
  have l1 : (done ++ (70, 1, nI (done.length + 3)) :: ([(40, 0, -1), (45, nI x, 0), (71, 0, -1)] ++ ((exM e).map (mkL xm ym) ++ ([(72, 1, -1)] ++ todo)))).length ≤ 10000 := by
    rw [List.append_assoc, List.append_assoc] at hL; exact hL
  have hk : done.length < 9997 := by simp only [List.length_append, List.length_cons, List.length_nil] at l1; omega
  obtain ⟨S1, p1, c1, f1⟩ := ct_hold (d := d + 4) h (by show 0 < 50; omega) (nI done.length)
  have r1 : CdRun (d + 6) [(70, 1, nI (done.length + 3)), (40, 0, -1), (45, nI x, 0), (71, 0, -1)] done S S1 := fun r hr => cd_val (d := d + 5) (k := 0) m1 (by omega) rfl rfl p1 f1.1 (by rw [List.length_append] at hr; exact hr)
  have m2 : MK S1 ((done ++ [(70, 1, nI (done.length + 3)), (40, 0, -1), (45, nI x, 0), (71, 0, -1)]) ++ ((exM e).map (mkL xm ym) ++ ([(72, 1, -1)] ++ todo))) := by rw [List.append_assoc]; exact f1.1.MK m1
  have l2 : ((done ++ [(70, 1, nI (done.length + 3)), (40, 0, -1), (45, nI x, 0), (71, 0, -1)]) ++ ((exM e).map (mkL xm ym) ++ ([(72, 1, -1)] ++ todo))).length ≤ 10240 := by rw [List.append_assoc]; exact Nat.le_trans l1 (by decide)
  obtain ⟨S2, r2, c2, f2⟩ := cd_ex (d := d + 2) m2 l2 c1 (by omega) (by show 1 < 10; omega) (exV_X he f1.1)
  have M2 : MK S2 ((done ++ [(70, 1, nI (done.length + 3)), (40, 0, -1), (45, nI x, 0), (71, 0, -1)]) ++ ((exM e).map (mkL xm ym) ++ ([(72, 1, -1)] ++ todo))) := f2.MK m2
  have m3 : MK S2 (((done ++ [(70, 1, nI (done.length + 3)), (40, 0, -1), (45, nI x, 0), (71, 0, -1)]) ++ (exM e).map (mkL xm ym)) ++ (72, 1, -1) :: todo) := by rw [List.append_assoc (done ++ _)]; exact M2
  have l3 : (((done ++ [(70, 1, nI (done.length + 3)), (40, 0, -1), (45, nI x, 0), (71, 0, -1)]) ++ (exM e).map (mkL xm ym)) ++ (72, 1, -1) :: todo).length ≤ 10240 := by rw [List.append_assoc (done ++ _)]; exact l2
  have m4 : MK S2 (done ++ (70, 1, nI (done.length + 3)) :: ([(40, 0, -1), (45, nI x, 0), (71, 0, -1)] ++ ((exM e).map (mkL xm ym) ++ ([(72, 1, -1)] ++ todo)))) := by rw [List.append_assoc] at M2; exact M2
  have g : ∀ i, ∀ (q : Mk), ([(70, 1, nI (done.length + 3)), (40, 0, -1), (45, nI x, 0), (71, 0, -1)] : List Mk)[i]? = some q → S2.1 22 (done.length + i) = q.1 ∧ S2.1 25 (done.length + i) = q.2.2 := fun i q hq => by
    have hi := (List.getElem?_eq_some_iff.mp hq).1
    have := M2.2 (done.length + i) q (by
      rw [List.getElem?_append_left (by rw [List.length_append]; omega), List.getElem?_append_right (Nat.le_add_right _ _), Nat.add_sub_cancel_left]; exact hq)
    exact ⟨this.1, this.2.2.1⟩
  have hol : (os ++ exO px py os.length dep e).length < 50000 := by
    have hex : (exO px py os.length dep e).length ≤ 20 := by
      match e, he with
      | .inl a, _ => show 1 ≤ 20; decide
      | .inr (a, cs, none), ⟨_, _, _, _, h3, _⟩ =>
        show (chO px py cs).length + 1 ≤ 20
        rw [chO_len]; have : cs.length ≤ 3 := h3; omega
      | .inr (a, cs, some q), ⟨_, _, _, _, h3, _⟩ =>
        have e9 : (exO px py os.length dep (.inr (a, cs, some q))).length = (chO px py cs).length + 1 + 8 + 1 := by
          unfold exO exE haO
          simp only [List.length_append, List.length_cons, List.length_nil]
        rw [e9, chO_len]; have : cs.length ≤ 3 := h3; omega
    rw [List.length_append]; omega
  obtain ⟨S3, p3, c3, w3, w3b, f3⟩ := cs_endVal (d := d) (n := done.length) (by omega) c2 hol (by show 0 < 30; omega) (g 0 _ rfl).2 (g 1 _ rfl).1 (g 2 _ rfl).1 (g 2 _ rfl).2 (by omega)
  have r3 : CdRun (d + 6) [(72, 1, -1)] ((done ++ [(70, 1, nI (done.length + 3)), (40, 0, -1), (45, nI x, 0), (71, 0, -1)]) ++ (exM e).map (mkL xm ym)) S2 S3 := CdRun.one (fun r hr => cd_dec (d := d + 5) m3 l3 rfl (cs_dec p3) hr)
  refine ⟨S3, r1.app (r2.app r3), ?_, w3, fun m p hm hw => w3b m p hm ((hw.X f1.1).X f2), f1.1.V.trans (f2.V.trans f3)⟩
  unfold lnO
  rw [← List.append_assoc]
  exact c3
