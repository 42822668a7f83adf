/-! the core that both worlds hold: tape, OUT, slots, guards -/
abbrev Co : Type := (Nat → By) × Nat × (Nat → By) × Nat × (Nat → Nat → By) × (Nat → Nat) × (Nat → Wd) × (Nat → Nat → By) × (Nat → Nat → By) × (Nat → Nat → By) × (Nat → Nat → By)
abbrev Co.tt (K : Co) : Nat → By := K.1
abbrev Co.tn (K : Co) : Nat := K.2.1
abbrev Co.ot (K : Co) : Nat → By := K.2.2.1
abbrev Co.on (K : Co) : Nat := K.2.2.2.1
abbrev Co.sb (K : Co) : Nat → Nat → By := K.2.2.2.2.1
abbrev Co.sn (K : Co) : Nat → Nat := K.2.2.2.2.2.1
abbrev Co.gp (K : Co) : Nat → Wd := K.2.2.2.2.2.2.1
abbrev Co.gs (K : Co) : Nat → Nat → By := K.2.2.2.2.2.2.2.1
abbrev Co.gk (K : Co) : Nat → Nat → By := K.2.2.2.2.2.2.2.2.1
abbrev Co.gi (K : Co) : Nat → Nat → By := K.2.2.2.2.2.2.2.2.2.1
abbrev Co.gh (K : Co) : Nat → Nat → By := K.2.2.2.2.2.2.2.2.2.2
def Z8 : Nat → By := fun _ => 0#8
def NA : Wd := 4294967295#32
def sameT (K K' : Co) : Prop := K'.tt = K.tt ∧ K'.tn = K.tn
def sameO (K K' : Co) : Prop := K'.ot = K.ot ∧ K'.on = K.on
def sameS (K K' : Co) : Prop := K'.sb = K.sb ∧ K'.sn = K.sn
def sameG (K K' : Co) : Prop := K'.gp = K.gp ∧ K'.gs = K.gs ∧ K'.gk = K.gk ∧ K'.gi = K.gi ∧ K'.gh = K.gh
def outIs (K' : Co) (n : Nat) (F : Nat → By) : Prop := K'.tn = 0 ∧ K'.on = n ∧ ∀ j, j < n → K'.ot j = F j
def R_feed (K : Co) (n : Nat) (x : BitVec 64) (K' : Co) : Prop := K'.tn = K.tn + n ∧ K'.tt = wb K.tt K.tn n x ∧ sameO K K' ∧ sameS K K' ∧ sameG K K'
def R_wipe (K K' : Co) : Prop := K'.tn = 0 ∧ sameO K K' ∧ sameS K K' ∧ sameG K K'
def R_keep (K : Co) (b i : Nat) (K' : Co) : Prop := K'.sn = va_up K.sn i (if b = 0 then K.tn else K.on) ∧ (∀ q j, q ≠ i → j < 128 → K'.sb q j = K.sb q j) ∧ (∀ j, j < (if b = 0 then K.tn else K.on) → K'.sb i j = (if b = 0 then K.tt else K.ot) j) ∧ K'.tt = K.tt ∧ K'.tn = (if b = 0 then 0 else K.tn) ∧ sameO K K' ∧ sameG K K'
def R_out (K : Co) (n : Nat) (F : Nat → By) (K' : Co) : Prop := outIs K' n F ∧ sameS K K' ∧ sameG K K'
/-- rows of guard g are new, the others' are not -/
def rowIs (f f' : Nat → Nat → By) (g n : Nat) (F : Nat → By) : Prop := (∀ q j, q ≠ g → j < 32 → f' q j = f q j) ∧ ∀ j, j < n → f' g j = F j
def rowSame (f f' : Nat → Nat → By) : Prop := ∀ q j, j < 32 → f' q j = f q j
def R_arm (K : Co) (g i : Nat) (K' : Co) : Prop := sameT K K' ∧ sameO K K' ∧ sameS K K' ∧ K'.gp = va_up K.gp g 0#32 ∧ rowIs K.gs K'.gs g 32 (K.sb i) ∧ rowIs K.gk K'.gk g 32 (labF (K.sb i) 32 0 Z8 0 32) ∧ rowIs K.gi K'.gi g 12 (labF (K.sb i) 32 1 Z8 0 12) ∧ rowIs K.gh K'.gh g 32 (labF (K.sb i) 32 2 Z8 0 32)
def R_turn (K : Co) (g : Nat) (K' : Co) : Prop := sameT K K' ∧ sameO K K' ∧ sameS K K' ∧ K'.gp = va_up K.gp g (1#32 - K.gp g) ∧ rowIs K.gs K'.gs g 32 (labF (K.gs g) 32 3 Z8 0 32) ∧ rowIs K.gk K'.gk g 32 (labF (K'.gs g) 32 0 Z8 0 32) ∧ rowIs K.gi K'.gi g 12 (labF (K'.gs g) 32 1 Z8 0 12) ∧ K'.gh = K.gh
def R_open (K : Co) (g : Nat) (x : BitVec 64) (h : Nat) (K' : Co) (ans : Int32) : Prop := (ans = nI (K.tn - 16) ∧ openOk (K.gk g) (K.gi g) x K.tt h (K.tn - 16) ∧ R_out K (K.tn - 16) (covF (K.gk g) (nonF (K.gi g) x) K.tt h (K.tn - 16)) K') ∨ (ans = wI NA ∧ ¬ openOk (K.gk g) (K.gi g) x K.tt h (K.tn - 16) ∧ R_out K 0 Z8 K')
/-- what always holds -/
def IK (K : Co) : Prop := K.tn ≤ 2048 ∧ K.on ≤ 2064 ∧ (∀ i, i < 8 → K.sn i ≤ 128) ∧ ∀ g, g < 4 → K.gp g = NA ∨ K.gp g = 0#32 ∨ K.gp g = 1#32

abbrev Sc : Type := Co × (Nat → By) × (Nat → Nat) × (Nat → Nat) × (Nat → Nat) × (Nat → Nat) × Nat × Nat × (Nat → Wd) × (Nat → Wd) × (Nat → By) × (Nat → By) × (Nat → By) × (Nat → By) × (Nat → By) × (Nat → By) × Nat × (Nat → Wd) × (Nat → Wd) × (Nat → By) × (Nat → Nat) × (Nat → Nat) × (Nat → Nat) × (Nat → Nat) × (Nat → By) × (Nat → By) × (Nat → By) × (Nat → By)
abbrev Sc.k (S : Sc) : Co := S.1
abbrev Sc.nt (S : Sc) : Nat → By := S.2.1
abbrev Sc.gsn (S : Sc) : Nat → Nat := S.2.2.1
abbrev Sc.gkn (S : Sc) : Nat → Nat := S.2.2.2.1
abbrev Sc.gin (S : Sc) : Nat → Nat := S.2.2.2.2.1
abbrev Sc.ghn (S : Sc) : Nat → Nat := S.2.2.2.2.2.1
abbrev Sc.dF (S : Sc) : Nat := S.2.2.2.2.2.2.1
abbrev Sc.dT (S : Sc) : Nat := S.2.2.2.2.2.2.2.1
abbrev Sc.dS (S : Sc) : Nat → Wd := S.2.2.2.2.2.2.2.2.1
abbrev Sc.dW (S : Sc) : Nat → Wd := S.2.2.2.2.2.2.2.2.2.1
abbrev Sc.dP (S : Sc) : Nat → By := S.2.2.2.2.2.2.2.2.2.2.1
abbrev Sc.kP (S : Sc) : Nat → By := S.2.2.2.2.2.2.2.2.2.2.2.1
abbrev Sc.kI (S : Sc) : Nat → By := S.2.2.2.2.2.2.2.2.2.2.2.2.1
abbrev Sc.kQ (S : Sc) : Nat → By := S.2.2.2.2.2.2.2.2.2.2.2.2.2.1
abbrev Sc.kU (S : Sc) : Nat → By := S.2.2.2.2.2.2.2.2.2.2.2.2.2.2.1
abbrev Sc.kE (S : Sc) : Nat → By := S.2.2.2.2.2.2.2.2.2.2.2.2.2.2.2.1
abbrev Sc.kC (S : Sc) : Nat := S.2.2.2.2.2.2.2.2.2.2.2.2.2.2.2.2.1
abbrev Sc.sF (S : Sc) : Nat → Wd := S.2.2.2.2.2.2.2.2.2.2.2.2.2.2.2.2.2.1
abbrev Sc.sX (S : Sc) : Nat → Wd := S.2.2.2.2.2.2.2.2.2.2.2.2.2.2.2.2.2.2.1
abbrev Sc.sB (S : Sc) : Nat → By := S.2.2.2.2.2.2.2.2.2.2.2.2.2.2.2.2.2.2.2.1
abbrev Sc.ta (S : Sc) : Nat → Nat := S.2.2.2.2.2.2.2.2.2.2.2.2.2.2.2.2.2.2.2.2.1
abbrev Sc.tr (S : Sc) : Nat → Nat := S.2.2.2.2.2.2.2.2.2.2.2.2.2.2.2.2.2.2.2.2.2.1
abbrev Sc.tq (S : Sc) : Nat → Nat := S.2.2.2.2.2.2.2.2.2.2.2.2.2.2.2.2.2.2.2.2.2.2.1
abbrev Sc.ts (S : Sc) : Nat → Nat := S.2.2.2.2.2.2.2.2.2.2.2.2.2.2.2.2.2.2.2.2.2.2.2.1
abbrev Sc.tp (S : Sc) : Nat → By := S.2.2.2.2.2.2.2.2.2.2.2.2.2.2.2.2.2.2.2.2.2.2.2.2.1
abbrev Sc.zN (S : Sc) : Nat → By := S.2.2.2.2.2.2.2.2.2.2.2.2.2.2.2.2.2.2.2.2.2.2.2.2.2.1
abbrev Sc.zS (S : Sc) : Nat → By := S.2.2.2.2.2.2.2.2.2.2.2.2.2.2.2.2.2.2.2.2.2.2.2.2.2.2.1
abbrev Sc.zM (S : Sc) : Nat → By := S.2.2.2.2.2.2.2.2.2.2.2.2.2.2.2.2.2.2.2.2.2.2.2.2.2.2.2
abbrev bw0 (D : va_G) (ad : Nat → Nat) (S : Sc) : Nat × va_E := (ad 0, .inr (7, [.ref (ad 1), .ref (ad 3), .ref (ad 5), .ref (ad 7), .ref (ad 8), .ref (ad 9), .ref (ad 13), .ref (ad 20), .ref (ad 24), .ref (ad 30)]))
abbrev bw1 (D : va_G) (ad : Nat → Nat) (S : Sc) : Nat × va_E := (ad 1, .inr (4, [.ref (ad 2), .int (nI S.k.tn)]))
abbrev bw2 (D : va_G) (ad : Nat → Nat) (S : Sc) : Nat × va_E := (ad 2, aB D 2048 S.k.tt)
abbrev bw3 (D : va_G) (ad : Nat → Nat) (S : Sc) : Nat × va_E := (ad 3, .inr (4, [.ref (ad 4), .int (nI S.k.on)]))
abbrev bw4 (D : va_G) (ad : Nat → Nat) (S : Sc) : Nat × va_E := (ad 4, aB D 2064 S.k.ot)
abbrev bw5 (D : va_G) (ad : Nat → Nat) (S : Sc) : Nat × va_E := (ad 5, .inr (4, [.ref (ad 6), .int (nI 0)]))
abbrev bw6 (D : va_G) (ad : Nat → Nat) (S : Sc) : Nat × va_E := (ad 6, aB D 0 S.nt)
abbrev bw7 (D : va_G) (ad : Nat → Nat) (S : Sc) : Nat × va_E := (ad 7, aR D 103 8 (rfL [ad 34, ad 36, ad 38, ad 40, ad 42, ad 44, ad 46, ad 48]))
abbrev bw8 (D : va_G) (ad : Nat → Nat) (S : Sc) : Nat × va_E := (ad 8, aR D 104 4 (rfL [ad 50, ad 59, ad 68, ad 77]))
abbrev bw9 (D : va_G) (ad : Nat → Nat) (S : Sc) : Nat × va_E := (ad 9, .inr (0, [.ref (ad 10), .ref (ad 11), .ref (ad 12), .int (nI S.dF), .long (lN S.dT)]))
abbrev bw10 (D : va_G) (ad : Nat → Nat) (S : Sc) : Nat × va_E := (ad 10, aW D 8 S.dS)
abbrev bw11 (D : va_G) (ad : Nat → Nat) (S : Sc) : Nat × va_E := (ad 11, aW D 64 S.dW)
abbrev bw12 (D : va_G) (ad : Nat → Nat) (S : Sc) : Nat × va_E := (ad 12, aB D 64 S.dP)
abbrev bw13 (D : va_G) (ad : Nat → Nat) (S : Sc) : Nat × va_E := (ad 13, .inr (2, [.ref (ad 9), .ref (ad 14), .ref (ad 15), .ref (ad 16), .ref (ad 17), .ref (ad 18)]))
abbrev bw14 (D : va_G) (ad : Nat → Nat) (S : Sc) : Nat × va_E := (ad 14, aB D 64 S.kP)
abbrev bw15 (D : va_G) (ad : Nat → Nat) (S : Sc) : Nat × va_E := (ad 15, aB D 32 S.kI)
abbrev bw16 (D : va_G) (ad : Nat → Nat) (S : Sc) : Nat × va_E := (ad 16, aB D 32 S.kQ)
abbrev bw17 (D : va_G) (ad : Nat → Nat) (S : Sc) : Nat × va_E := (ad 17, aB D 1 S.kU)
abbrev bw18 (D : va_G) (ad : Nat → Nat) (S : Sc) : Nat × va_E := (ad 18, .inr (4, [.ref (ad 19), .int (nI S.kC)]))
abbrev bw19 (D : va_G) (ad : Nat → Nat) (S : Sc) : Nat × va_E := (ad 19, aB D 269 S.kE)
abbrev bw20 (D : va_G) (ad : Nat → Nat) (S : Sc) : Nat × va_E := (ad 20, .inr (3, [.ref (ad 21), .ref (ad 22), .ref (ad 23)]))
abbrev bw21 (D : va_G) (ad : Nat → Nat) (S : Sc) : Nat × va_E := (ad 21, aW D 16 S.sF)
abbrev bw22 (D : va_G) (ad : Nat → Nat) (S : Sc) : Nat × va_E := (ad 22, aW D 16 S.sX)
abbrev bw23 (D : va_G) (ad : Nat → Nat) (S : Sc) : Nat × va_E := (ad 23, aB D 64 S.sB)
abbrev bw24 (D : va_G) (ad : Nat → Nat) (S : Sc) : Nat × va_E := (ad 24, .inr (6, [.ref (ad 25), .ref (ad 26), .ref (ad 27), .ref (ad 28), .ref (ad 29)]))
abbrev bw25 (D : va_G) (ad : Nat → Nat) (S : Sc) : Nat × va_E := (ad 25, aL D 5 (v5 (S.ta 0) (S.ta 1) (S.ta 2) (S.ta 3) (S.ta 4)))
abbrev bw26 (D : va_G) (ad : Nat → Nat) (S : Sc) : Nat × va_E := (ad 26, aL D 5 (v5 (S.tr 0) (S.tr 1) (S.tr 2) (S.tr 3) (S.tr 4)))
abbrev bw27 (D : va_G) (ad : Nat → Nat) (S : Sc) : Nat × va_E := (ad 27, aL D 5 (v5 (S.tq 0) (S.tq 1) (S.tq 2) (S.tq 3) (S.tq 4)))
abbrev bw28 (D : va_G) (ad : Nat → Nat) (S : Sc) : Nat × va_E := (ad 28, aL D 4 S.ts)
abbrev bw29 (D : va_G) (ad : Nat → Nat) (S : Sc) : Nat × va_E := (ad 29, aB D 17 S.tp)
abbrev bw30 (D : va_G) (ad : Nat → Nat) (S : Sc) : Nat × va_E := (ad 30, .inr (5, [.ref (ad 20), .ref (ad 24), .ref (ad 31), .ref (ad 32), .ref (ad 33)]))
abbrev bw31 (D : va_G) (ad : Nat → Nat) (S : Sc) : Nat × va_E := (ad 31, aB D 12 S.zN)
abbrev bw32 (D : va_G) (ad : Nat → Nat) (S : Sc) : Nat × va_E := (ad 32, aB D 16 S.zS)
abbrev bw33 (D : va_G) (ad : Nat → Nat) (S : Sc) : Nat × va_E := (ad 33, aB D 16 S.zM)
abbrev bw34 (D : va_G) (ad : Nat → Nat) (S : Sc) : Nat × va_E := (ad 34, .inr (4, [.ref (ad 35), .int (nI (S.k.sn 0))]))
abbrev bw35 (D : va_G) (ad : Nat → Nat) (S : Sc) : Nat × va_E := (ad 35, aB D 128 (S.k.sb 0))
abbrev bw36 (D : va_G) (ad : Nat → Nat) (S : Sc) : Nat × va_E := (ad 36, .inr (4, [.ref (ad 37), .int (nI (S.k.sn 1))]))
abbrev bw37 (D : va_G) (ad : Nat → Nat) (S : Sc) : Nat × va_E := (ad 37, aB D 128 (S.k.sb 1))
abbrev bw38 (D : va_G) (ad : Nat → Nat) (S : Sc) : Nat × va_E := (ad 38, .inr (4, [.ref (ad 39), .int (nI (S.k.sn 2))]))
abbrev bw39 (D : va_G) (ad : Nat → Nat) (S : Sc) : Nat × va_E := (ad 39, aB D 128 (S.k.sb 2))
abbrev bw40 (D : va_G) (ad : Nat → Nat) (S : Sc) : Nat × va_E := (ad 40, .inr (4, [.ref (ad 41), .int (nI (S.k.sn 3))]))
abbrev bw41 (D : va_G) (ad : Nat → Nat) (S : Sc) : Nat × va_E := (ad 41, aB D 128 (S.k.sb 3))
abbrev bw42 (D : va_G) (ad : Nat → Nat) (S : Sc) : Nat × va_E := (ad 42, .inr (4, [.ref (ad 43), .int (nI (S.k.sn 4))]))
abbrev bw43 (D : va_G) (ad : Nat → Nat) (S : Sc) : Nat × va_E := (ad 43, aB D 128 (S.k.sb 4))
abbrev bw44 (D : va_G) (ad : Nat → Nat) (S : Sc) : Nat × va_E := (ad 44, .inr (4, [.ref (ad 45), .int (nI (S.k.sn 5))]))
abbrev bw45 (D : va_G) (ad : Nat → Nat) (S : Sc) : Nat × va_E := (ad 45, aB D 128 (S.k.sb 5))
abbrev bw46 (D : va_G) (ad : Nat → Nat) (S : Sc) : Nat × va_E := (ad 46, .inr (4, [.ref (ad 47), .int (nI (S.k.sn 6))]))
abbrev bw47 (D : va_G) (ad : Nat → Nat) (S : Sc) : Nat × va_E := (ad 47, aB D 128 (S.k.sb 6))
abbrev bw48 (D : va_G) (ad : Nat → Nat) (S : Sc) : Nat × va_E := (ad 48, .inr (4, [.ref (ad 49), .int (nI (S.k.sn 7))]))
abbrev bw49 (D : va_G) (ad : Nat → Nat) (S : Sc) : Nat × va_E := (ad 49, aB D 128 (S.k.sb 7))
abbrev bw50 (D : va_G) (ad : Nat → Nat) (S : Sc) : Nat × va_E := (ad 50, .inr (1, [.ref (ad 51), .ref (ad 53), .ref (ad 55), .ref (ad 57), .int (wI (S.k.gp 0))]))
abbrev bw51 (D : va_G) (ad : Nat → Nat) (S : Sc) : Nat × va_E := (ad 51, .inr (4, [.ref (ad 52), .int (nI (S.gsn 0))]))
abbrev bw52 (D : va_G) (ad : Nat → Nat) (S : Sc) : Nat × va_E := (ad 52, aB D 32 (S.k.gs 0))
abbrev bw53 (D : va_G) (ad : Nat → Nat) (S : Sc) : Nat × va_E := (ad 53, .inr (4, [.ref (ad 54), .int (nI (S.gkn 0))]))
abbrev bw54 (D : va_G) (ad : Nat → Nat) (S : Sc) : Nat × va_E := (ad 54, aB D 32 (S.k.gk 0))
abbrev bw55 (D : va_G) (ad : Nat → Nat) (S : Sc) : Nat × va_E := (ad 55, .inr (4, [.ref (ad 56), .int (nI (S.gin 0))]))
abbrev bw56 (D : va_G) (ad : Nat → Nat) (S : Sc) : Nat × va_E := (ad 56, aB D 12 (S.k.gi 0))
abbrev bw57 (D : va_G) (ad : Nat → Nat) (S : Sc) : Nat × va_E := (ad 57, .inr (4, [.ref (ad 58), .int (nI (S.ghn 0))]))
abbrev bw58 (D : va_G) (ad : Nat → Nat) (S : Sc) : Nat × va_E := (ad 58, aB D 32 (S.k.gh 0))
abbrev bw59 (D : va_G) (ad : Nat → Nat) (S : Sc) : Nat × va_E := (ad 59, .inr (1, [.ref (ad 60), .ref (ad 62), .ref (ad 64), .ref (ad 66), .int (wI (S.k.gp 1))]))
abbrev bw60 (D : va_G) (ad : Nat → Nat) (S : Sc) : Nat × va_E := (ad 60, .inr (4, [.ref (ad 61), .int (nI (S.gsn 1))]))
abbrev bw61 (D : va_G) (ad : Nat → Nat) (S : Sc) : Nat × va_E := (ad 61, aB D 32 (S.k.gs 1))
abbrev bw62 (D : va_G) (ad : Nat → Nat) (S : Sc) : Nat × va_E := (ad 62, .inr (4, [.ref (ad 63), .int (nI (S.gkn 1))]))
abbrev bw63 (D : va_G) (ad : Nat → Nat) (S : Sc) : Nat × va_E := (ad 63, aB D 32 (S.k.gk 1))
abbrev bw64 (D : va_G) (ad : Nat → Nat) (S : Sc) : Nat × va_E := (ad 64, .inr (4, [.ref (ad 65), .int (nI (S.gin 1))]))
abbrev bw65 (D : va_G) (ad : Nat → Nat) (S : Sc) : Nat × va_E := (ad 65, aB D 12 (S.k.gi 1))
abbrev bw66 (D : va_G) (ad : Nat → Nat) (S : Sc) : Nat × va_E := (ad 66, .inr (4, [.ref (ad 67), .int (nI (S.ghn 1))]))
abbrev bw67 (D : va_G) (ad : Nat → Nat) (S : Sc) : Nat × va_E := (ad 67, aB D 32 (S.k.gh 1))
abbrev bw68 (D : va_G) (ad : Nat → Nat) (S : Sc) : Nat × va_E := (ad 68, .inr (1, [.ref (ad 69), .ref (ad 71), .ref (ad 73), .ref (ad 75), .int (wI (S.k.gp 2))]))
abbrev bw69 (D : va_G) (ad : Nat → Nat) (S : Sc) : Nat × va_E := (ad 69, .inr (4, [.ref (ad 70), .int (nI (S.gsn 2))]))
abbrev bw70 (D : va_G) (ad : Nat → Nat) (S : Sc) : Nat × va_E := (ad 70, aB D 32 (S.k.gs 2))
abbrev bw71 (D : va_G) (ad : Nat → Nat) (S : Sc) : Nat × va_E := (ad 71, .inr (4, [.ref (ad 72), .int (nI (S.gkn 2))]))
abbrev bw72 (D : va_G) (ad : Nat → Nat) (S : Sc) : Nat × va_E := (ad 72, aB D 32 (S.k.gk 2))
abbrev bw73 (D : va_G) (ad : Nat → Nat) (S : Sc) : Nat × va_E := (ad 73, .inr (4, [.ref (ad 74), .int (nI (S.gin 2))]))
abbrev bw74 (D : va_G) (ad : Nat → Nat) (S : Sc) : Nat × va_E := (ad 74, aB D 12 (S.k.gi 2))
abbrev bw75 (D : va_G) (ad : Nat → Nat) (S : Sc) : Nat × va_E := (ad 75, .inr (4, [.ref (ad 76), .int (nI (S.ghn 2))]))
abbrev bw76 (D : va_G) (ad : Nat → Nat) (S : Sc) : Nat × va_E := (ad 76, aB D 32 (S.k.gh 2))
abbrev bw77 (D : va_G) (ad : Nat → Nat) (S : Sc) : Nat × va_E := (ad 77, .inr (1, [.ref (ad 78), .ref (ad 80), .ref (ad 82), .ref (ad 84), .int (wI (S.k.gp 3))]))
abbrev bw78 (D : va_G) (ad : Nat → Nat) (S : Sc) : Nat × va_E := (ad 78, .inr (4, [.ref (ad 79), .int (nI (S.gsn 3))]))
abbrev bw79 (D : va_G) (ad : Nat → Nat) (S : Sc) : Nat × va_E := (ad 79, aB D 32 (S.k.gs 3))
abbrev bw80 (D : va_G) (ad : Nat → Nat) (S : Sc) : Nat × va_E := (ad 80, .inr (4, [.ref (ad 81), .int (nI (S.gkn 3))]))
abbrev bw81 (D : va_G) (ad : Nat → Nat) (S : Sc) : Nat × va_E := (ad 81, aB D 32 (S.k.gk 3))
abbrev bw82 (D : va_G) (ad : Nat → Nat) (S : Sc) : Nat × va_E := (ad 82, .inr (4, [.ref (ad 83), .int (nI (S.gin 3))]))
abbrev bw83 (D : va_G) (ad : Nat → Nat) (S : Sc) : Nat × va_E := (ad 83, aB D 12 (S.k.gi 3))
abbrev bw84 (D : va_G) (ad : Nat → Nat) (S : Sc) : Nat × va_E := (ad 84, .inr (4, [.ref (ad 85), .int (nI (S.ghn 3))]))
abbrev bw85 (D : va_G) (ad : Nat → Nat) (S : Sc) : Nat × va_E := (ad 85, aB D 32 (S.k.gh 3))
def BW (D : va_G) (ad : Nat → Nat) (S : Sc) : va_W := [bw0 D ad S, bw1 D ad S, bw2 D ad S, bw3 D ad S, bw4 D ad S, bw5 D ad S, bw6 D ad S, bw7 D ad S, bw8 D ad S, bw9 D ad S, bw10 D ad S, bw11 D ad S, bw12 D ad S, bw13 D ad S, bw14 D ad S, bw15 D ad S, bw16 D ad S, bw17 D ad S, bw18 D ad S, bw19 D ad S, bw20 D ad S, bw21 D ad S, bw22 D ad S, bw23 D ad S, bw24 D ad S, bw25 D ad S, bw26 D ad S, bw27 D ad S, bw28 D ad S, bw29 D ad S, bw30 D ad S, bw31 D ad S, bw32 D ad S, bw33 D ad S, bw34 D ad S, bw35 D ad S, bw36 D ad S, bw37 D ad S, bw38 D ad S, bw39 D ad S, bw40 D ad S, bw41 D ad S, bw42 D ad S, bw43 D ad S, bw44 D ad S, bw45 D ad S, bw46 D ad S, bw47 D ad S, bw48 D ad S, bw49 D ad S, bw50 D ad S, bw51 D ad S, bw52 D ad S, bw53 D ad S, bw54 D ad S, bw55 D ad S, bw56 D ad S, bw57 D ad S, bw58 D ad S, bw59 D ad S, bw60 D ad S, bw61 D ad S, bw62 D ad S, bw63 D ad S, bw64 D ad S, bw65 D ad S, bw66 D ad S, bw67 D ad S, bw68 D ad S, bw69 D ad S, bw70 D ad S, bw71 D ad S, bw72 D ad S, bw73 D ad S, bw74 D ad S, bw75 D ad S, bw76 D ad S, bw77 D ad S, bw78 D ad S, bw79 D ad S, bw80 D ad S, bw81 D ad S, bw82 D ad S, bw83 D ad S, bw84 D ad S, bw85 D ad S]
def IB (S : Sc) : Prop := IK S.k ∧ ∀ g, g < 4 → S.k.gp g ≠ NA → S.gsn g = 32
