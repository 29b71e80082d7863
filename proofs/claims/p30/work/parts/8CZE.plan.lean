/-! what is WANTED: chains of STATES -/
/-- 1 where p, else 0 -/
noncomputable def iz (p : Prop) : Int := @ite Int p (Classical.propDecidable p) 1 0
/-- s becomes t by LAMPS below l that are not broken -/
def CZ (l : Nat) (g s t : Nat) : Prop := ∀ j : Nat, (s.testBit j = true → t.testBit j = true) ∧ (l ≤ j → s.testBit j = t.testBit j) ∧ (¬ s.testBit j = t.testBit j → g.testBit j = false)
/-- the broken LAMPS as bits -/
def gN (g : Int) : Nat := (i_and 255 g).toNat
/-- from s the NEWS w is SENT by u -/
noncomputable def mE (code : Nat → Int) (g : Nat) (w : Int) (s u : Nat) : Int := iz (CZ 8 g s u ∧ code u = w)
/-- chains from 0 over the first k WANTED that end in t -/
noncomputable def PC (code : Nat → Int) (g : Nat) (wt : Nat → Int) (N : Nat) : Nat → Nat → Int
  | 0, t => if t = 0 then 1 else 0
  | k + 1, t => Sm (fun s => PC code g wt N k s * mE code g (wt k) s t) N
/-- chains from s over the last r of w that end at OIL v -/
noncomputable def NC (code : Nat → Int) (g : Nat) (wt oil : Nat → Int) (N w : Nat) : Nat → Nat → Int → Int
  | 0, s, v => if oil s = v then 1 else 0
  | r + 1, s, v => Sm (fun u => mE code g (wt (w - (r + 1))) s u * NC code g wt oil N w r u v) N
section
variable {code wt oil code' wt' oil' : Nat → Int} {g N w : Nat}
end
/-! the least and how many: the reference's, from o on -/
/-! the class's -/
def CW (f : Int → Int) (least tog : Int) : Prop := (least = -1 ∧ tog = 0 ∧ ∀ v, f v = 0) ∨ (0 ≤ least ∧ 0 < f least ∧ (∀ v, v < least → f v = 0) ∧ tog = f least)
/-! the first chain for OIL v -/
/-- t is the first that goes on from s by the NEWS w, with r more behind -/
def GO (code : Nat → Int) (g : Nat) (wt oil : Nat → Int) (N w : Nat) (L : Int) (i s t : Nat) : Prop := (t < N ∧ CZ 8 g s t ∧ code t = wt i) ∧ 0 < NC code g wt oil N w (w - (i + 1)) t L
def FS (code : Nat → Int) (g : Nat) (wt oil : Nat → Int) (N w : Nat) (L : Int) (i s t : Nat) : Prop := GO code g wt oil N w L i s t ∧ ∀ u, u < t → ¬ GO code g wt oil N w L i s u
/-- F tells the first chain, up to k -/
def FC (code : Nat → Int) (g : Nat) (wt oil : Nat → Int) (N w : Nat) (L : Int) (F : Nat → Int) (k : Nat) : Prop := ∀ i, i < k → 0 ≤ F i ∧ FS code g wt oil N w L i (if i = 0 then 0 else (F (i - 1)).toNat) (F i).toNat
/-! the class's cells -/
/-! there are not too many chains -/
/-! what is open -/
section
variable {code wt oil : Nat → Int} {g N w i : Nat} {L : Int} {F : Nat → Int}
end

/-- what is WANTED, solved: its OIL L, in m ways; by F -/
def ESo (code : Nat → Int) (g : Nat) (wt oil : Nat → Int) (N w : Nat) (L m : Int) (F : Nat → Int) : Prop := (∃ tg, CW (fun v => Sm (fun t => PC code g wt N w t * (if oil t = v then 1 else 0)) N) L tg ∧ m = min 1000000000 tg) ∧ (¬ L = -1 → FC code g wt oil N w L F w)
/-- the class's Errand is right where it is fresh -/
def wtC (I : aI1) (k : Nat) : Int := w32 (I 6 k)
def EK (I : aI1) : Prop := ¬ I 33 3 = 0 → ESo (I 3) (gN (I 1 7)) (wtC I) (fun s => oilS (I 2) s (I 1 5).toNat) (FU (I 1 5) + 1).toNat (I 1 11).toNat (I 33 1) (I 33 2) (I 34)
