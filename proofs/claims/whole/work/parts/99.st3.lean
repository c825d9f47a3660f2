/-! 99: the law: the world behind both constructors -/
def A0 (D : va_G) (ca : Nat → ClassId) (a f : Nat → Nat) (b : Nat) : GD := (D, fun k => if k < 79 then a (g0 k) else if k = 140 then b else f k, ca)
def WW (ca : Nat → ClassId) (a : Nat → Nat) : va_W := W7 ca (a 0) (a 1) (a 2) (a 3) (a 4) (a 5) (a 6) (a 7) (a 8) (a 9) (a 10) (a 11) (a 12) (a 13) (a 14) (a 15) (a 16) (a 17) (a 18) (a 19) (a 20) (a 21) (a 22) (a 23) (a 24) (a 25) (a 26) (a 27) (a 28) (a 29) (a 30) (a 31) (a 32) (a 33) (a 34) (a 35) (a 36) (a 37) (a 38) (a 39) (a 40) (a 41) (a 42) (a 43) (a 44) (a 45) (a 46) (a 47) (a 48) (a 49) (a 50) (a 51) (a 52) (a 53) (a 54) (a 55) (a 56) (a 57) ++ W8 ca (a 58) (a 59) (a 60) (a 61) (a 62) (a 63) (a 64) (a 65) (a 66) (a 67) (a 68) (a 69) (a 70) (a 71) (a 72) (a 73) (a 74) (a 75) (a 76) (a 77) (a 78)
abbrev w0P (D : va_G) (ca : Nat → ClassId) (a f : Nat → Nat) (b k : Nat) : Prop := ∀ q : Nat × va_E, (wl (A0 D ca a f b) SH M0)[k]? = some q → (WW ca a)[g0 k]? = some q
theorem fls {P : Nat → Prop} {n : Nat} (h : ∀ k, k < n → P k) (hn : P n) : ∀ k, k < n + 1 → P k := fun k hk => (Nat.lt_succ_iff_lt_or_eq.mp hk).elim (h k) (fun e => e ▸ hn)
section W0
variable {D : va_G} {ca : Nat → ClassId} {a f : Nat → Nat} {b : Nat}
theorem w0_0 : w0P D ca a f b 0 := fun q hk => by rw [← hk, wl_at rfl]; rfl
theorem w0_1 : w0P D ca a f b 1 := fun q hk => by rw [← hk, wl_at rfl]; rfl
theorem w0_2 : w0P D ca a f b 2 := fun q hk => by rw [← hk, wl_at rfl]; rfl
theorem w0_3 : w0P D ca a f b 3 := fun q hk => by rw [← hk, wl_at rfl]; rfl
theorem w0_4 : w0P D ca a f b 4 := fun q hk => by rw [← hk, wl_at rfl]; rfl
theorem w0_5 : w0P D ca a f b 5 := fun q hk => by rw [← hk, wl_at rfl]; rfl
theorem w0_6 : w0P D ca a f b 6 := fun q hk => by rw [← hk, wl_at rfl]; rfl
theorem w0_7 : w0P D ca a f b 7 := fun q hk => by rw [← hk, wl_at rfl]; rfl
theorem w0_8 : w0P D ca a f b 8 := fun q hk => by rw [← hk, wl_at rfl]; rfl
theorem w0_9 : w0P D ca a f b 9 := fun q hk => by rw [← hk, wl_at rfl]; rfl
theorem w0_10 : w0P D ca a f b 10 := fun q hk => by rw [← hk, wl_at rfl]; rfl
theorem w0_11 : w0P D ca a f b 11 := fun q hk => by rw [← hk, wl_at rfl]; rfl
theorem w0_12 : w0P D ca a f b 12 := fun q hk => by rw [← hk, wl_at rfl]; rfl
theorem w0_13 : w0P D ca a f b 13 := fun q hk => by rw [← hk, wl_at rfl]; rfl
theorem w0_14 : w0P D ca a f b 14 := fun q hk => by rw [← hk, wl_at rfl]; rfl
theorem w0_15 : w0P D ca a f b 15 := fun q hk => by rw [← hk, wl_at rfl]; rfl
theorem w0_16 : w0P D ca a f b 16 := fun q hk => by rw [← hk, wl_at (d := .inr (.inl (3, [17, 25]))) rfl]; exact congrArg (fun z => some (a 16, (Sum.inl (ca 3, 2, Sum.inr (Sum.inr (Sum.inr (Sum.inr z)))) : va_E))) (up2 rfl rfl)
theorem w0_17 : w0P D ca a f b 17 := fun q hk => by rw [← hk, wl_at rfl]; rfl
theorem w0_18 : w0P D ca a f b 18 := fun q hk => by rw [← hk, wl_at rfl]; rfl
theorem w0_19 : w0P D ca a f b 19 := fun q hk => by rw [← hk, wl_at rfl]; rfl
theorem w0_20 : w0P D ca a f b 20 := fun q hk => by rw [← hk, wl_at rfl]; rfl
theorem w0_21 : w0P D ca a f b 21 := fun q hk => by rw [← hk, wl_at rfl]; rfl
theorem w0_22 : w0P D ca a f b 22 := fun q hk => by rw [← hk, wl_at rfl]; rfl
theorem w0_23 : w0P D ca a f b 23 := fun q hk => by rw [← hk, wl_at rfl]; rfl
theorem w0_24 : w0P D ca a f b 24 := fun q hk => by rw [← hk, wl_at rfl]; rfl
theorem w0_25 : w0P D ca a f b 25 := fun q hk => by rw [← hk, wl_at rfl]; rfl
theorem w0_26 : w0P D ca a f b 26 := fun q hk => by rw [← hk, wl_at rfl]; rfl
theorem w0_27 : w0P D ca a f b 27 := fun q hk => by rw [← hk, wl_at rfl]; rfl
theorem w0_28 : w0P D ca a f b 28 := fun q hk => by rw [← hk, wl_at rfl]; rfl
theorem w0_29 : w0P D ca a f b 29 := fun q hk => by rw [← hk, wl_at rfl]; rfl
theorem w0_30 : w0P D ca a f b 30 := fun q hk => by rw [← hk, wl_at rfl]; rfl
theorem w0_31 : w0P D ca a f b 31 := fun q hk => by rw [← hk, wl_at rfl]; rfl
theorem w0_32 : w0P D ca a f b 32 := fun q hk => by rw [← hk, wl_at rfl]; rfl
theorem w0_33 : w0P D ca a f b 33 := fun q hk => by rw [← hk, wl_at (d := .inr (.inl (4, [34, 36, 38, 40]))) rfl]; exact congrArg (fun z => some (a 17, (Sum.inl (ca 4, 4, Sum.inr (Sum.inr (Sum.inr (Sum.inr z)))) : va_E))) (up4 rfl rfl rfl rfl)
theorem w0_34 : w0P D ca a f b 34 := fun q hk => by rw [← hk, wl_at rfl]; rfl
theorem w0_35 : w0P D ca a f b 35 := fun q hk => by rw [← hk, wl_at rfl]; rfl
theorem w0_36 : w0P D ca a f b 36 := fun q hk => by rw [← hk, wl_at rfl]; rfl
theorem w0_37 : w0P D ca a f b 37 := fun q hk => by rw [← hk, wl_at rfl]; rfl
theorem w0_38 : w0P D ca a f b 38 := fun q hk => by rw [← hk, wl_at rfl]; rfl
theorem w0_39 : w0P D ca a f b 39 := fun q hk => by rw [← hk, wl_at rfl]; rfl
theorem w0_40 : w0P D ca a f b 40 := fun q hk => by rw [← hk, wl_at rfl]; rfl
theorem w0_41 : w0P D ca a f b 41 := fun q hk => by rw [← hk, wl_at rfl]; rfl
theorem w0_42 : w0P D ca a f b 42 := fun q hk => by rw [← hk, wl_at rfl]; rfl
theorem w0_43 : w0P D ca a f b 43 := fun q hk => by rw [← hk, wl_at rfl]; rfl
theorem w0_44 : w0P D ca a f b 44 := fun q hk => by rw [← hk, wl_at rfl]; rfl
theorem w0_45 : w0P D ca a f b 45 := fun q hk => by rw [← hk, wl_at rfl]; rfl
theorem w0_46 : w0P D ca a f b 46 := fun q hk => by rw [← hk, wl_at rfl]; rfl
theorem w0_47 : w0P D ca a f b 47 := fun q hk => by rw [← hk, wl_at rfl]; rfl
theorem w0_48 : w0P D ca a f b 48 := fun q hk => by rw [← hk, wl_at rfl]; rfl
theorem w0_49 : w0P D ca a f b 49 := fun q hk => by rw [← hk, wl_at rfl]; rfl
theorem w0_50 : w0P D ca a f b 50 := fun q hk => by rw [← hk, wl_at rfl]; rfl
theorem w0_51 : w0P D ca a f b 51 := fun q hk => by rw [← hk, wl_at rfl]; rfl
theorem w0_52 : w0P D ca a f b 52 := fun q hk => by rw [← hk, wl_at rfl]; rfl
theorem w0_53 : w0P D ca a f b 53 := fun q hk => by rw [← hk, wl_at rfl]; rfl
theorem w0_54 : w0P D ca a f b 54 := fun q hk => by rw [← hk, wl_at rfl]; rfl
theorem w0_55 : w0P D ca a f b 55 := fun q hk => by rw [← hk, wl_at rfl]; rfl
theorem w0_56 : w0P D ca a f b 56 := fun q hk => by rw [← hk, wl_at rfl]; rfl
theorem w0_57 : w0P D ca a f b 57 := fun q hk => by rw [← hk, wl_at rfl]; rfl
theorem w0_58 : w0P D ca a f b 58 := fun q hk => by
  rw [← hk, wl_at (d := .inr (.inr (8, [some 59, some 60, some 61, none, some 62, none, none, some 63, some 64, none, some 65, none, some 66, none, none, none, none, some 67, none, none, none, none, none, none, none, none, some 68, some 69, some 70, some 71, some 72, some 73, some 74, some 75, some 76, some 77, some 78, none]))) rfl]
  simp only [ent, List.mapIdx_cons, List.mapIdx_nil, fv]
  rfl
theorem w0_59 : w0P D ca a f b 59 := fun q hk => by rw [← hk, wl_at rfl]; rfl
theorem w0_60 : w0P D ca a f b 60 := fun q hk => by rw [← hk, wl_at rfl]; rfl
theorem w0_61 : w0P D ca a f b 61 := fun q hk => by rw [← hk, wl_at rfl]; rfl
theorem w0_62 : w0P D ca a f b 62 := fun q hk => by rw [← hk, wl_at rfl]; rfl
theorem w0_63 : w0P D ca a f b 63 := fun q hk => by rw [← hk, wl_at rfl]; rfl
theorem w0_64 : w0P D ca a f b 64 := fun q hk => by rw [← hk, wl_at rfl]; rfl
theorem w0_65 : w0P D ca a f b 65 := fun q hk => by rw [← hk, wl_at rfl]; rfl
theorem w0_66 : w0P D ca a f b 66 := fun q hk => by rw [← hk, wl_at rfl]; rfl
theorem w0_67 : w0P D ca a f b 67 := fun q hk => by rw [← hk, wl_at rfl]; rfl
theorem w0_68 : w0P D ca a f b 68 := fun q hk => by rw [← hk, wl_at rfl]; rfl
theorem w0_69 : w0P D ca a f b 69 := fun q hk => by rw [← hk, wl_at rfl]; rfl
theorem w0_70 : w0P D ca a f b 70 := fun q hk => by rw [← hk, wl_at rfl]; rfl
theorem w0_71 : w0P D ca a f b 71 := fun q hk => by rw [← hk, wl_at rfl]; rfl
theorem w0_72 : w0P D ca a f b 72 := fun q hk => by rw [← hk, wl_at rfl]; rfl
theorem w0_73 : w0P D ca a f b 73 := fun q hk => by rw [← hk, wl_at rfl]; rfl
theorem w0_74 : w0P D ca a f b 74 := fun q hk => by rw [← hk, wl_at rfl]; rfl
theorem w0_75 : w0P D ca a f b 75 := fun q hk => by rw [← hk, wl_at rfl]; rfl
theorem w0_76 : w0P D ca a f b 76 := fun q hk => by rw [← hk, wl_at rfl]; rfl
theorem w0_77 : w0P D ca a f b 77 := fun q hk => by rw [← hk, wl_at rfl]; rfl
theorem w0_78 : w0P D ca a f b 78 := fun q hk => by rw [← hk, wl_at rfl]; rfl
theorem w0_all : ∀ k, k < 79 → w0P D ca a f b k := (fls (fls (fls (fls (fls (fls (fls (fls (fls (fls (fls (fls (fls (fls (fls (fls (fls (fls (fls (fls (fls (fls (fls (fls (fls (fls (fls (fls (fls (fls (fls (fls (fls (fls (fls (fls (fls (fls (fls (fls (fls (fls (fls (fls (fls (fls (fls (fls (fls (fls (fls (fls (fls (fls (fls (fls (fls (fls (fls (fls (fls (fls (fls (fls (fls (fls (fls (fls (fls (fls (fls (fls (fls (fls (fls (fls (fls (fls (fls (fun k hk => absurd hk (Nat.not_lt_zero k)) w0_0) w0_1) w0_2) w0_3) w0_4) w0_5) w0_6) w0_7) w0_8) w0_9) w0_10) w0_11) w0_12) w0_13) w0_14) w0_15) w0_16) w0_17) w0_18) w0_19) w0_20) w0_21) w0_22) w0_23) w0_24) w0_25) w0_26) w0_27) w0_28) w0_29) w0_30) w0_31) w0_32) w0_33) w0_34) w0_35) w0_36) w0_37) w0_38) w0_39) w0_40) w0_41) w0_42) w0_43) w0_44) w0_45) w0_46) w0_47) w0_48) w0_49) w0_50) w0_51) w0_52) w0_53) w0_54) w0_55) w0_56) w0_57) w0_58) w0_59) w0_60) w0_61) w0_62) w0_63) w0_64) w0_65) w0_66) w0_67) w0_68) w0_69) w0_70) w0_71) w0_72) w0_73) w0_74) w0_75) w0_76) w0_77) w0_78)
end W0
