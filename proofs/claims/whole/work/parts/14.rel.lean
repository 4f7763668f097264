/-! what holds of the one world from call to call: n calls are done -/
def bt (x : Int32) (a b : Int) : Prop := a ≤ x.toInt ∧ x.toInt ≤ b
def wkN (F : FF) : Nat := (F 36 1).toNatClampNeg
def tmN (F : FF) : Nat := (F 36 2).toNatClampNeg
def RG (F : FF) : Prop := (∀ j, j < 4 → F 2 j = F 37 j ∧ bt (F 37 j) 0 100000) ∧ (∀ j, j < 16 → F 3 j = F 38 j ∧ bt (F 38 j) 0 100) ∧ (F 0 3 = F 36 4 ∧ F 0 4 = F 36 5 ∧ bt (F 36 4) 1 30 ∧ bt (F 36 5) (F 36 4).toInt 30) ∧ (F 0 5 = F 36 7 ∧ bt (F 36 7) 0 100000 ∧ F 0 6 = F 36 8)
def RWk (F : FF) : Prop := F 0 7 = F 36 1 ∧ F 0 8 = F 36 2 ∧ wkN F < 16 ∧ F 36 1 = nI (wkN F) ∧ tmN F < 10 ∧ F 36 2 = nI (tmN F)
def R1 (F : FF) (i : Nat) : Prop := F (4 + 8 * i) 3 = F 39 i ∧ (F 39 i = 0 ∨ F 39 i = 1) ∧ F (4 + 8 * i) 4 = F 40 i ∧ F (4 + 8 * i) 5 = F 41 i ∧ 0 ≤ (F 41 i).toInt ∧ F (4 + 8 * i) 8 = F 42 i ∧ bt (F 42 i) 0 7 ∧ F (4 + 8 * i) 9 = F 43 i ∧ 0 ≤ (F 43 i).toInt
def R2 (B P : Int) (F : FF) (i : Nat) : Prop := F (4 + 8 * i) 6 = F 48 i ∧ F (4 + 8 * i) 7 = F 49 i ∧ F (4 + 8 * i) 10 = F 53 i ∧ 0 ≤ (F 48 i).toInt ∧ 0 ≤ (F 49 i).toInt ∧ (F 48 i).toInt + (F 49 i).toInt ≤ B ∧ bt (F 53 i) 0 P
def sN (f : Nat → Int32) : Nat → Int
  | 0 => 0
  | n + 1 => sN f n + (f n).toInt
def R3 (F : FF) (i : Nat) : Prop := F (4 + 8 * i + 1) 1 = F 44 i ∧ tM F i ≤ 8 ∧ F 44 i = nI (tM F i) ∧ F (4 + 8 * i + 1) 2 = F 47 i ∧ (∀ j, j < 8 → F (4 + 8 * i + 2) j = if j < tM F i ∧ F 46 (8 * i + j) = 0 then F 45 (8 * i + j) else 0) ∧ (∀ j, j < tM F i → F 46 (8 * i + j) = 0 → bt (F 45 (8 * i + j)) 1 10) ∧ 0 ≤ (F 47 i).toInt ∧ (F 47 i).toInt + 100000 * sN (F (4 + 8 * i + 2)) 8 ≤ 1000000 * (tM F i : Int)
def R4 (F : FF) (i : Nat) : Prop := F (4 + 8 * i + 3) 3 = F 50 i ∧ aM F i ≤ 6 ∧ F 50 i = nI (aM F i) ∧ (∀ j, j < aM F i → F (4 + 8 * i + 4) j = F 51 (6 * i + j) ∧ bt (F 51 (6 * i + j)) 0 2) ∧ (∀ j, j < 6 → F (4 + 8 * i + 5) j = if j < aM F i then F 52 (6 * i + j) else 0) ∧ (∀ j, j < aM F i → bt (F 52 (6 * i + j)) 0 1000000)
def R5 (F : FF) (i : Nat) : Prop := F (4 + 8 * i + 7) 0 = F 57 i ∧ F (4 + 8 * i + 7) 1 = F 54 i ∧ F (4 + 8 * i + 7) 2 = F 55 i + F 56 i ∧ F (4 + 8 * i + 7) 3 = F 55 i ∧ F (4 + 8 * i + 7) 4 = F 58 i
def REL (n : Nat) (F : FF) : Prop := RG F ∧ RWk F ∧ ∀ i, i < 4 → R1 F i ∧ R2 (1100000 * (n : Int) + 8000000 * (tmN F : Int)) (1000000 * (n : Int)) F i ∧ R3 F i ∧ R4 F i ∧ R5 F i
