/-! the first world -/
def kdL : List Nat := [0, 0, 5, 0, 0, 0, 0, 0, 0, 5, 0, 0, 0, 0, 0, 0, 5, 0, 0, 0, 0, 0, 0, 5, 0, 0, 0, 0, 0, 0, 5, 0, 0, 0, 0, 0, 0, 5, 0, 0, 0, 0, 0, 0, 5, 0, 0, 0, 0, 0, 0, 4, 0, 1, 0, 0, 0, 0, 0, 0, 0, 0, 0, 0, 0, 0, 0, 0, 0, 0, 4, 0, 1, 0, 0, 0, 0, 0, 0, 0, 0, 0, 0, 0, 0, 0, 0, 0, 0, 4, 0, 1, 0, 0, 0, 0, 0, 0, 0, 0, 0, 0, 0, 0, 0, 0, 0, 0, 0, 0, 0, 0, 0, 2, 0, 0, 3, 0, 0, 0, 0, 0, 0, 0, 0, 0, 0, 0, 0, 0, 0, 0, 0, 0, 0, 0, 0, 0, 0, 0, 0, 0, 2, 0, 0]
def idL : List Nat := [144, 79, 143, 142, 141, 140, 139, 138, 137, 70, 69, 68, 67, 66, 65, 64, 63, 62, 61, 60, 59, 58, 57, 56, 55, 54, 53, 52, 51, 50, 49, 48, 47, 46, 45, 44, 43, 42, 41, 40, 39, 38, 37, 36, 35, 34, 33, 32, 31, 30, 29, 136, 135, 134, 133, 132, 131, 130, 129, 128, 127, 126, 125, 124, 123, 122, 121, 120, 119, 118, 117, 116, 115, 114, 113, 112, 111, 110, 109, 108, 107, 106, 105, 104, 103, 102, 101, 100, 99, 98, 97, 96, 95, 94, 93, 92, 91, 90, 89, 88, 87, 86, 85, 84, 83, 82, 81, 80, 78, 77, 76, 75, 74, 73, 72, 71, 28, 27, 26, 25, 24, 23, 22, 21, 20, 19, 18, 17, 16, 15, 14, 13, 12, 11, 10, 9, 8, 7, 6, 5, 4, 3, 2, 1, 0]
def idP (i : Nat) : Nat := idL.getD i 0
def v0 : VV := fun i => match kdL.getD i 0 with
  | 0 => fun _ => 0
  | 1 => r6 nI
  | 2 => r6 (fun _ => -1)
  | 3 => fun k => match k with
    | 7 => 50
    | 15 => -1
    | 37 => -1
    | 38 => -1
    | _ => 0
  | 4 => fun k => match k with
    | 1 => 50
    | 7 => 5
    | 8 => 10
    | 9 => 1
    | _ => 0
  | _ => fun k => match k with
    | 0 => 5
    | 1 => 10
    | 2 => 1
    | _ => 0
def w0 : WV := fun _ _ => 0
def aG (oC oM : Nat) (aC aM : Nat → Nat) : Nat → Nat := fun i => if i = 0 then oC else if i < 116 then aC i else if i = 116 then oM else aM (i - 116)
abbrev LG (k : Nat → ClassId) (oC oM : Nat) (aC aM : Nat → Nat) : va_W := bM k oM aM ++ (bC k oC aC ++ [])
section GL
variable (D : va_G) (k : Nat → ClassId) (A : Nat → Prop) (t K V : Nat → Nat) (oC oM : Nat) (aC aM : Nat → Nat)
theorem gl_0 : (LG k oC oM aC aM)[idP 0]? = some (aG oC oM aC aM 0, ce (D, aG oC oM aC aM, k, A, t, K, V) v0 w0 0) := rfl
theorem gl_1 : (LG k oC oM aC aM)[idP 1]? = some (aG oC oM aC aM 1, .inl (k 13, 6, .inr (.inr (.inr (.inr (larr aC)))))) := rfl
theorem gl_2 : (LG k oC oM aC aM)[idP 2]? = some (aG oC oM aC aM 2, ce (D, aG oC oM aC aM, k, A, t, K, V) v0 w0 2) := rfl
theorem gl_3 : (LG k oC oM aC aM)[idP 3]? = some (aG oC oM aC aM 3, ce (D, aG oC oM aC aM, k, A, t, K, V) v0 w0 3) := rfl
theorem gl_4 : (LG k oC oM aC aM)[idP 4]? = some (aG oC oM aC aM 4, ce (D, aG oC oM aC aM, k, A, t, K, V) v0 w0 4) := rfl
theorem gl_5 : (LG k oC oM aC aM)[idP 5]? = some (aG oC oM aC aM 5, ce (D, aG oC oM aC aM, k, A, t, K, V) v0 w0 5) := rfl
theorem gl_6 : (LG k oC oM aC aM)[idP 6]? = some (aG oC oM aC aM 6, ce (D, aG oC oM aC aM, k, A, t, K, V) v0 w0 6) := rfl
theorem gl_7 : (LG k oC oM aC aM)[idP 7]? = some (aG oC oM aC aM 7, ce (D, aG oC oM aC aM, k, A, t, K, V) v0 w0 7) := rfl
theorem gl_8 : (LG k oC oM aC aM)[idP 8]? = some (aG oC oM aC aM 8, ce (D, aG oC oM aC aM, k, A, t, K, V) v0 w0 8) := rfl
theorem gl_9 : (LG k oC oM aC aM)[idP 9]? = some (aG oC oM aC aM 9, ce (D, aG oC oM aC aM, k, A, t, K, V) v0 w0 9) := rfl
theorem gl_10 : (LG k oC oM aC aM)[idP 10]? = some (aG oC oM aC aM 10, ce (D, aG oC oM aC aM, k, A, t, K, V) v0 w0 10) := rfl
theorem gl_11 : (LG k oC oM aC aM)[idP 11]? = some (aG oC oM aC aM 11, ce (D, aG oC oM aC aM, k, A, t, K, V) v0 w0 11) := rfl
theorem gl_12 : (LG k oC oM aC aM)[idP 12]? = some (aG oC oM aC aM 12, ce (D, aG oC oM aC aM, k, A, t, K, V) v0 w0 12) := rfl
theorem gl_13 : (LG k oC oM aC aM)[idP 13]? = some (aG oC oM aC aM 13, ce (D, aG oC oM aC aM, k, A, t, K, V) v0 w0 13) := rfl
theorem gl_14 : (LG k oC oM aC aM)[idP 14]? = some (aG oC oM aC aM 14, ce (D, aG oC oM aC aM, k, A, t, K, V) v0 w0 14) := rfl
theorem gl_15 : (LG k oC oM aC aM)[idP 15]? = some (aG oC oM aC aM 15, ce (D, aG oC oM aC aM, k, A, t, K, V) v0 w0 15) := rfl
theorem gl_16 : (LG k oC oM aC aM)[idP 16]? = some (aG oC oM aC aM 16, ce (D, aG oC oM aC aM, k, A, t, K, V) v0 w0 16) := rfl
theorem gl_17 : (LG k oC oM aC aM)[idP 17]? = some (aG oC oM aC aM 17, ce (D, aG oC oM aC aM, k, A, t, K, V) v0 w0 17) := rfl
theorem gl_18 : (LG k oC oM aC aM)[idP 18]? = some (aG oC oM aC aM 18, ce (D, aG oC oM aC aM, k, A, t, K, V) v0 w0 18) := rfl
theorem gl_19 : (LG k oC oM aC aM)[idP 19]? = some (aG oC oM aC aM 19, ce (D, aG oC oM aC aM, k, A, t, K, V) v0 w0 19) := rfl
theorem gl_20 : (LG k oC oM aC aM)[idP 20]? = some (aG oC oM aC aM 20, ce (D, aG oC oM aC aM, k, A, t, K, V) v0 w0 20) := rfl
theorem gl_21 : (LG k oC oM aC aM)[idP 21]? = some (aG oC oM aC aM 21, ce (D, aG oC oM aC aM, k, A, t, K, V) v0 w0 21) := rfl
theorem gl_22 : (LG k oC oM aC aM)[idP 22]? = some (aG oC oM aC aM 22, ce (D, aG oC oM aC aM, k, A, t, K, V) v0 w0 22) := rfl
theorem gl_23 : (LG k oC oM aC aM)[idP 23]? = some (aG oC oM aC aM 23, ce (D, aG oC oM aC aM, k, A, t, K, V) v0 w0 23) := rfl
theorem gl_24 : (LG k oC oM aC aM)[idP 24]? = some (aG oC oM aC aM 24, ce (D, aG oC oM aC aM, k, A, t, K, V) v0 w0 24) := rfl
theorem gl_25 : (LG k oC oM aC aM)[idP 25]? = some (aG oC oM aC aM 25, ce (D, aG oC oM aC aM, k, A, t, K, V) v0 w0 25) := rfl
theorem gl_26 : (LG k oC oM aC aM)[idP 26]? = some (aG oC oM aC aM 26, ce (D, aG oC oM aC aM, k, A, t, K, V) v0 w0 26) := rfl
theorem gl_27 : (LG k oC oM aC aM)[idP 27]? = some (aG oC oM aC aM 27, ce (D, aG oC oM aC aM, k, A, t, K, V) v0 w0 27) := rfl
theorem gl_28 : (LG k oC oM aC aM)[idP 28]? = some (aG oC oM aC aM 28, ce (D, aG oC oM aC aM, k, A, t, K, V) v0 w0 28) := rfl
theorem gl_29 : (LG k oC oM aC aM)[idP 29]? = some (aG oC oM aC aM 29, ce (D, aG oC oM aC aM, k, A, t, K, V) v0 w0 29) := rfl
theorem gl_30 : (LG k oC oM aC aM)[idP 30]? = some (aG oC oM aC aM 30, ce (D, aG oC oM aC aM, k, A, t, K, V) v0 w0 30) := rfl
theorem gl_31 : (LG k oC oM aC aM)[idP 31]? = some (aG oC oM aC aM 31, ce (D, aG oC oM aC aM, k, A, t, K, V) v0 w0 31) := rfl
theorem gl_32 : (LG k oC oM aC aM)[idP 32]? = some (aG oC oM aC aM 32, ce (D, aG oC oM aC aM, k, A, t, K, V) v0 w0 32) := rfl
theorem gl_33 : (LG k oC oM aC aM)[idP 33]? = some (aG oC oM aC aM 33, ce (D, aG oC oM aC aM, k, A, t, K, V) v0 w0 33) := rfl
theorem gl_34 : (LG k oC oM aC aM)[idP 34]? = some (aG oC oM aC aM 34, ce (D, aG oC oM aC aM, k, A, t, K, V) v0 w0 34) := rfl
theorem gl_35 : (LG k oC oM aC aM)[idP 35]? = some (aG oC oM aC aM 35, ce (D, aG oC oM aC aM, k, A, t, K, V) v0 w0 35) := rfl
theorem gl_36 : (LG k oC oM aC aM)[idP 36]? = some (aG oC oM aC aM 36, ce (D, aG oC oM aC aM, k, A, t, K, V) v0 w0 36) := rfl
theorem gl_37 : (LG k oC oM aC aM)[idP 37]? = some (aG oC oM aC aM 37, ce (D, aG oC oM aC aM, k, A, t, K, V) v0 w0 37) := rfl
theorem gl_38 : (LG k oC oM aC aM)[idP 38]? = some (aG oC oM aC aM 38, ce (D, aG oC oM aC aM, k, A, t, K, V) v0 w0 38) := rfl
theorem gl_39 : (LG k oC oM aC aM)[idP 39]? = some (aG oC oM aC aM 39, ce (D, aG oC oM aC aM, k, A, t, K, V) v0 w0 39) := rfl
theorem gl_40 : (LG k oC oM aC aM)[idP 40]? = some (aG oC oM aC aM 40, ce (D, aG oC oM aC aM, k, A, t, K, V) v0 w0 40) := rfl
theorem gl_41 : (LG k oC oM aC aM)[idP 41]? = some (aG oC oM aC aM 41, ce (D, aG oC oM aC aM, k, A, t, K, V) v0 w0 41) := rfl
theorem gl_42 : (LG k oC oM aC aM)[idP 42]? = some (aG oC oM aC aM 42, ce (D, aG oC oM aC aM, k, A, t, K, V) v0 w0 42) := rfl
theorem gl_43 : (LG k oC oM aC aM)[idP 43]? = some (aG oC oM aC aM 43, ce (D, aG oC oM aC aM, k, A, t, K, V) v0 w0 43) := rfl
theorem gl_44 : (LG k oC oM aC aM)[idP 44]? = some (aG oC oM aC aM 44, ce (D, aG oC oM aC aM, k, A, t, K, V) v0 w0 44) := rfl
theorem gl_45 : (LG k oC oM aC aM)[idP 45]? = some (aG oC oM aC aM 45, ce (D, aG oC oM aC aM, k, A, t, K, V) v0 w0 45) := rfl
theorem gl_46 : (LG k oC oM aC aM)[idP 46]? = some (aG oC oM aC aM 46, ce (D, aG oC oM aC aM, k, A, t, K, V) v0 w0 46) := rfl
theorem gl_47 : (LG k oC oM aC aM)[idP 47]? = some (aG oC oM aC aM 47, ce (D, aG oC oM aC aM, k, A, t, K, V) v0 w0 47) := rfl
theorem gl_48 : (LG k oC oM aC aM)[idP 48]? = some (aG oC oM aC aM 48, ce (D, aG oC oM aC aM, k, A, t, K, V) v0 w0 48) := rfl
theorem gl_49 : (LG k oC oM aC aM)[idP 49]? = some (aG oC oM aC aM 49, ce (D, aG oC oM aC aM, k, A, t, K, V) v0 w0 49) := rfl
theorem gl_50 : (LG k oC oM aC aM)[idP 50]? = some (aG oC oM aC aM 50, ce (D, aG oC oM aC aM, k, A, t, K, V) v0 w0 50) := rfl
theorem gl_51 : (LG k oC oM aC aM)[idP 51]? = some (aG oC oM aC aM 51, ce (D, aG oC oM aC aM, k, A, t, K, V) v0 w0 51) := rfl
theorem gl_52 : (LG k oC oM aC aM)[idP 52]? = some (aG oC oM aC aM 52, ce (D, aG oC oM aC aM, k, A, t, K, V) v0 w0 52) := rfl
theorem gl_53 : (LG k oC oM aC aM)[idP 53]? = some (aG oC oM aC aM 53, ce (D, aG oC oM aC aM, k, A, t, K, V) v0 w0 53) := rfl
theorem gl_54 : (LG k oC oM aC aM)[idP 54]? = some (aG oC oM aC aM 54, ce (D, aG oC oM aC aM, k, A, t, K, V) v0 w0 54) := rfl
theorem gl_55 : (LG k oC oM aC aM)[idP 55]? = some (aG oC oM aC aM 55, ce (D, aG oC oM aC aM, k, A, t, K, V) v0 w0 55) := rfl
theorem gl_56 : (LG k oC oM aC aM)[idP 56]? = some (aG oC oM aC aM 56, ce (D, aG oC oM aC aM, k, A, t, K, V) v0 w0 56) := rfl
theorem gl_57 : (LG k oC oM aC aM)[idP 57]? = some (aG oC oM aC aM 57, ce (D, aG oC oM aC aM, k, A, t, K, V) v0 w0 57) := rfl
theorem gl_58 : (LG k oC oM aC aM)[idP 58]? = some (aG oC oM aC aM 58, ce (D, aG oC oM aC aM, k, A, t, K, V) v0 w0 58) := rfl
theorem gl_59 : (LG k oC oM aC aM)[idP 59]? = some (aG oC oM aC aM 59, ce (D, aG oC oM aC aM, k, A, t, K, V) v0 w0 59) := rfl
theorem gl_60 : (LG k oC oM aC aM)[idP 60]? = some (aG oC oM aC aM 60, ce (D, aG oC oM aC aM, k, A, t, K, V) v0 w0 60) := rfl
theorem gl_61 : (LG k oC oM aC aM)[idP 61]? = some (aG oC oM aC aM 61, ce (D, aG oC oM aC aM, k, A, t, K, V) v0 w0 61) := rfl
theorem gl_62 : (LG k oC oM aC aM)[idP 62]? = some (aG oC oM aC aM 62, ce (D, aG oC oM aC aM, k, A, t, K, V) v0 w0 62) := rfl
theorem gl_63 : (LG k oC oM aC aM)[idP 63]? = some (aG oC oM aC aM 63, ce (D, aG oC oM aC aM, k, A, t, K, V) v0 w0 63) := rfl
theorem gl_64 : (LG k oC oM aC aM)[idP 64]? = some (aG oC oM aC aM 64, ce (D, aG oC oM aC aM, k, A, t, K, V) v0 w0 64) := rfl
theorem gl_65 : (LG k oC oM aC aM)[idP 65]? = some (aG oC oM aC aM 65, ce (D, aG oC oM aC aM, k, A, t, K, V) v0 w0 65) := rfl
theorem gl_66 : (LG k oC oM aC aM)[idP 66]? = some (aG oC oM aC aM 66, ce (D, aG oC oM aC aM, k, A, t, K, V) v0 w0 66) := rfl
theorem gl_67 : (LG k oC oM aC aM)[idP 67]? = some (aG oC oM aC aM 67, ce (D, aG oC oM aC aM, k, A, t, K, V) v0 w0 67) := rfl
theorem gl_68 : (LG k oC oM aC aM)[idP 68]? = some (aG oC oM aC aM 68, ce (D, aG oC oM aC aM, k, A, t, K, V) v0 w0 68) := rfl
theorem gl_69 : (LG k oC oM aC aM)[idP 69]? = some (aG oC oM aC aM 69, ce (D, aG oC oM aC aM, k, A, t, K, V) v0 w0 69) := rfl
theorem gl_70 : (LG k oC oM aC aM)[idP 70]? = some (aG oC oM aC aM 70, ce (D, aG oC oM aC aM, k, A, t, K, V) v0 w0 70) := rfl
theorem gl_71 : (LG k oC oM aC aM)[idP 71]? = some (aG oC oM aC aM 71, ce (D, aG oC oM aC aM, k, A, t, K, V) v0 w0 71) := rfl
theorem gl_72 : (LG k oC oM aC aM)[idP 72]? = some (aG oC oM aC aM 72, ce (D, aG oC oM aC aM, k, A, t, K, V) v0 w0 72) := rfl
theorem gl_73 : (LG k oC oM aC aM)[idP 73]? = some (aG oC oM aC aM 73, ce (D, aG oC oM aC aM, k, A, t, K, V) v0 w0 73) := rfl
theorem gl_74 : (LG k oC oM aC aM)[idP 74]? = some (aG oC oM aC aM 74, ce (D, aG oC oM aC aM, k, A, t, K, V) v0 w0 74) := rfl
theorem gl_75 : (LG k oC oM aC aM)[idP 75]? = some (aG oC oM aC aM 75, ce (D, aG oC oM aC aM, k, A, t, K, V) v0 w0 75) := rfl
theorem gl_76 : (LG k oC oM aC aM)[idP 76]? = some (aG oC oM aC aM 76, ce (D, aG oC oM aC aM, k, A, t, K, V) v0 w0 76) := rfl
theorem gl_77 : (LG k oC oM aC aM)[idP 77]? = some (aG oC oM aC aM 77, ce (D, aG oC oM aC aM, k, A, t, K, V) v0 w0 77) := rfl
theorem gl_78 : (LG k oC oM aC aM)[idP 78]? = some (aG oC oM aC aM 78, ce (D, aG oC oM aC aM, k, A, t, K, V) v0 w0 78) := rfl
theorem gl_79 : (LG k oC oM aC aM)[idP 79]? = some (aG oC oM aC aM 79, ce (D, aG oC oM aC aM, k, A, t, K, V) v0 w0 79) := rfl
theorem gl_80 : (LG k oC oM aC aM)[idP 80]? = some (aG oC oM aC aM 80, ce (D, aG oC oM aC aM, k, A, t, K, V) v0 w0 80) := rfl
theorem gl_81 : (LG k oC oM aC aM)[idP 81]? = some (aG oC oM aC aM 81, ce (D, aG oC oM aC aM, k, A, t, K, V) v0 w0 81) := rfl
theorem gl_82 : (LG k oC oM aC aM)[idP 82]? = some (aG oC oM aC aM 82, ce (D, aG oC oM aC aM, k, A, t, K, V) v0 w0 82) := rfl
theorem gl_83 : (LG k oC oM aC aM)[idP 83]? = some (aG oC oM aC aM 83, ce (D, aG oC oM aC aM, k, A, t, K, V) v0 w0 83) := rfl
theorem gl_84 : (LG k oC oM aC aM)[idP 84]? = some (aG oC oM aC aM 84, ce (D, aG oC oM aC aM, k, A, t, K, V) v0 w0 84) := rfl
theorem gl_85 : (LG k oC oM aC aM)[idP 85]? = some (aG oC oM aC aM 85, ce (D, aG oC oM aC aM, k, A, t, K, V) v0 w0 85) := rfl
theorem gl_86 : (LG k oC oM aC aM)[idP 86]? = some (aG oC oM aC aM 86, ce (D, aG oC oM aC aM, k, A, t, K, V) v0 w0 86) := rfl
theorem gl_87 : (LG k oC oM aC aM)[idP 87]? = some (aG oC oM aC aM 87, ce (D, aG oC oM aC aM, k, A, t, K, V) v0 w0 87) := rfl
theorem gl_88 : (LG k oC oM aC aM)[idP 88]? = some (aG oC oM aC aM 88, ce (D, aG oC oM aC aM, k, A, t, K, V) v0 w0 88) := rfl
theorem gl_89 : (LG k oC oM aC aM)[idP 89]? = some (aG oC oM aC aM 89, ce (D, aG oC oM aC aM, k, A, t, K, V) v0 w0 89) := rfl
theorem gl_90 : (LG k oC oM aC aM)[idP 90]? = some (aG oC oM aC aM 90, ce (D, aG oC oM aC aM, k, A, t, K, V) v0 w0 90) := rfl
theorem gl_91 : (LG k oC oM aC aM)[idP 91]? = some (aG oC oM aC aM 91, ce (D, aG oC oM aC aM, k, A, t, K, V) v0 w0 91) := rfl
theorem gl_92 : (LG k oC oM aC aM)[idP 92]? = some (aG oC oM aC aM 92, ce (D, aG oC oM aC aM, k, A, t, K, V) v0 w0 92) := rfl
theorem gl_93 : (LG k oC oM aC aM)[idP 93]? = some (aG oC oM aC aM 93, ce (D, aG oC oM aC aM, k, A, t, K, V) v0 w0 93) := rfl
theorem gl_94 : (LG k oC oM aC aM)[idP 94]? = some (aG oC oM aC aM 94, ce (D, aG oC oM aC aM, k, A, t, K, V) v0 w0 94) := rfl
theorem gl_95 : (LG k oC oM aC aM)[idP 95]? = some (aG oC oM aC aM 95, ce (D, aG oC oM aC aM, k, A, t, K, V) v0 w0 95) := rfl
theorem gl_96 : (LG k oC oM aC aM)[idP 96]? = some (aG oC oM aC aM 96, ce (D, aG oC oM aC aM, k, A, t, K, V) v0 w0 96) := rfl
theorem gl_97 : (LG k oC oM aC aM)[idP 97]? = some (aG oC oM aC aM 97, ce (D, aG oC oM aC aM, k, A, t, K, V) v0 w0 97) := rfl
theorem gl_98 : (LG k oC oM aC aM)[idP 98]? = some (aG oC oM aC aM 98, ce (D, aG oC oM aC aM, k, A, t, K, V) v0 w0 98) := rfl
theorem gl_99 : (LG k oC oM aC aM)[idP 99]? = some (aG oC oM aC aM 99, ce (D, aG oC oM aC aM, k, A, t, K, V) v0 w0 99) := rfl
theorem gl_100 : (LG k oC oM aC aM)[idP 100]? = some (aG oC oM aC aM 100, ce (D, aG oC oM aC aM, k, A, t, K, V) v0 w0 100) := rfl
theorem gl_101 : (LG k oC oM aC aM)[idP 101]? = some (aG oC oM aC aM 101, ce (D, aG oC oM aC aM, k, A, t, K, V) v0 w0 101) := rfl
theorem gl_102 : (LG k oC oM aC aM)[idP 102]? = some (aG oC oM aC aM 102, ce (D, aG oC oM aC aM, k, A, t, K, V) v0 w0 102) := rfl
theorem gl_103 : (LG k oC oM aC aM)[idP 103]? = some (aG oC oM aC aM 103, ce (D, aG oC oM aC aM, k, A, t, K, V) v0 w0 103) := rfl
theorem gl_104 : (LG k oC oM aC aM)[idP 104]? = some (aG oC oM aC aM 104, ce (D, aG oC oM aC aM, k, A, t, K, V) v0 w0 104) := rfl
theorem gl_105 : (LG k oC oM aC aM)[idP 105]? = some (aG oC oM aC aM 105, ce (D, aG oC oM aC aM, k, A, t, K, V) v0 w0 105) := rfl
theorem gl_106 : (LG k oC oM aC aM)[idP 106]? = some (aG oC oM aC aM 106, ce (D, aG oC oM aC aM, k, A, t, K, V) v0 w0 106) := rfl
theorem gl_107 : (LG k oC oM aC aM)[idP 107]? = some (aG oC oM aC aM 107, ce (D, aG oC oM aC aM, k, A, t, K, V) v0 w0 107) := rfl
theorem gl_108 : (LG k oC oM aC aM)[idP 108]? = some (aG oC oM aC aM 108, ce (D, aG oC oM aC aM, k, A, t, K, V) v0 w0 108) := rfl
theorem gl_109 : (LG k oC oM aC aM)[idP 109]? = some (aG oC oM aC aM 109, ce (D, aG oC oM aC aM, k, A, t, K, V) v0 w0 109) := rfl
theorem gl_110 : (LG k oC oM aC aM)[idP 110]? = some (aG oC oM aC aM 110, ce (D, aG oC oM aC aM, k, A, t, K, V) v0 w0 110) := rfl
theorem gl_111 : (LG k oC oM aC aM)[idP 111]? = some (aG oC oM aC aM 111, ce (D, aG oC oM aC aM, k, A, t, K, V) v0 w0 111) := rfl
theorem gl_112 : (LG k oC oM aC aM)[idP 112]? = some (aG oC oM aC aM 112, ce (D, aG oC oM aC aM, k, A, t, K, V) v0 w0 112) := rfl
theorem gl_113 : (LG k oC oM aC aM)[idP 113]? = some (aG oC oM aC aM 113, ce (D, aG oC oM aC aM, k, A, t, K, V) v0 w0 113) := rfl
theorem gl_114 : (LG k oC oM aC aM)[idP 114]? = some (aG oC oM aC aM 114, ce (D, aG oC oM aC aM, k, A, t, K, V) v0 w0 114) := rfl
theorem gl_115 : (LG k oC oM aC aM)[idP 115]? = some (aG oC oM aC aM 115, ce (D, aG oC oM aC aM, k, A, t, K, V) v0 w0 115) := rfl
theorem gl_116 : (LG k oC oM aC aM)[idP 116]? = some (aG oC oM aC aM 116, ce (D, aG oC oM aC aM, k, A, t, K, V) v0 w0 116) := rfl
theorem gl_117 : (LG k oC oM aC aM)[idP 117]? = some (aG oC oM aC aM 117, ce (D, aG oC oM aC aM, k, A, t, K, V) v0 w0 117) := rfl
theorem gl_118 : (LG k oC oM aC aM)[idP 118]? = some (aG oC oM aC aM 118, ce (D, aG oC oM aC aM, k, A, t, K, V) v0 w0 118) := rfl
theorem gl_119 : (LG k oC oM aC aM)[idP 119]? = some (aG oC oM aC aM 119, ce (D, aG oC oM aC aM, k, A, t, K, V) v0 w0 119) := rfl
theorem gl_120 : (LG k oC oM aC aM)[idP 120]? = some (aG oC oM aC aM 120, ce (D, aG oC oM aC aM, k, A, t, K, V) v0 w0 120) := rfl
theorem gl_121 : (LG k oC oM aC aM)[idP 121]? = some (aG oC oM aC aM 121, ce (D, aG oC oM aC aM, k, A, t, K, V) v0 w0 121) := rfl
theorem gl_122 : (LG k oC oM aC aM)[idP 122]? = some (aG oC oM aC aM 122, ce (D, aG oC oM aC aM, k, A, t, K, V) v0 w0 122) := rfl
theorem gl_123 : (LG k oC oM aC aM)[idP 123]? = some (aG oC oM aC aM 123, ce (D, aG oC oM aC aM, k, A, t, K, V) v0 w0 123) := rfl
theorem gl_124 : (LG k oC oM aC aM)[idP 124]? = some (aG oC oM aC aM 124, ce (D, aG oC oM aC aM, k, A, t, K, V) v0 w0 124) := rfl
theorem gl_125 : (LG k oC oM aC aM)[idP 125]? = some (aG oC oM aC aM 125, ce (D, aG oC oM aC aM, k, A, t, K, V) v0 w0 125) := rfl
theorem gl_126 : (LG k oC oM aC aM)[idP 126]? = some (aG oC oM aC aM 126, ce (D, aG oC oM aC aM, k, A, t, K, V) v0 w0 126) := rfl
theorem gl_127 : (LG k oC oM aC aM)[idP 127]? = some (aG oC oM aC aM 127, ce (D, aG oC oM aC aM, k, A, t, K, V) v0 w0 127) := rfl
theorem gl_128 : (LG k oC oM aC aM)[idP 128]? = some (aG oC oM aC aM 128, ce (D, aG oC oM aC aM, k, A, t, K, V) v0 w0 128) := rfl
theorem gl_129 : (LG k oC oM aC aM)[idP 129]? = some (aG oC oM aC aM 129, ce (D, aG oC oM aC aM, k, A, t, K, V) v0 w0 129) := rfl
theorem gl_130 : (LG k oC oM aC aM)[idP 130]? = some (aG oC oM aC aM 130, ce (D, aG oC oM aC aM, k, A, t, K, V) v0 w0 130) := rfl
theorem gl_131 : (LG k oC oM aC aM)[idP 131]? = some (aG oC oM aC aM 131, ce (D, aG oC oM aC aM, k, A, t, K, V) v0 w0 131) := rfl
theorem gl_132 : (LG k oC oM aC aM)[idP 132]? = some (aG oC oM aC aM 132, ce (D, aG oC oM aC aM, k, A, t, K, V) v0 w0 132) := rfl
theorem gl_133 : (LG k oC oM aC aM)[idP 133]? = some (aG oC oM aC aM 133, ce (D, aG oC oM aC aM, k, A, t, K, V) v0 w0 133) := rfl
theorem gl_134 : (LG k oC oM aC aM)[idP 134]? = some (aG oC oM aC aM 134, ce (D, aG oC oM aC aM, k, A, t, K, V) v0 w0 134) := rfl
theorem gl_135 : (LG k oC oM aC aM)[idP 135]? = some (aG oC oM aC aM 135, ce (D, aG oC oM aC aM, k, A, t, K, V) v0 w0 135) := rfl
theorem gl_136 : (LG k oC oM aC aM)[idP 136]? = some (aG oC oM aC aM 136, ce (D, aG oC oM aC aM, k, A, t, K, V) v0 w0 136) := rfl
theorem gl_137 : (LG k oC oM aC aM)[idP 137]? = some (aG oC oM aC aM 137, ce (D, aG oC oM aC aM, k, A, t, K, V) v0 w0 137) := rfl
theorem gl_138 : (LG k oC oM aC aM)[idP 138]? = some (aG oC oM aC aM 138, ce (D, aG oC oM aC aM, k, A, t, K, V) v0 w0 138) := rfl
theorem gl_139 : (LG k oC oM aC aM)[idP 139]? = some (aG oC oM aC aM 139, ce (D, aG oC oM aC aM, k, A, t, K, V) v0 w0 139) := rfl
theorem gl_140 : (LG k oC oM aC aM)[idP 140]? = some (aG oC oM aC aM 140, ce (D, aG oC oM aC aM, k, A, t, K, V) v0 w0 140) := rfl
theorem gl_141 : (LG k oC oM aC aM)[idP 141]? = some (aG oC oM aC aM 141, ce (D, aG oC oM aC aM, k, A, t, K, V) v0 w0 141) := rfl
theorem gl_142 : (LG k oC oM aC aM)[idP 142]? = some (aG oC oM aC aM 142, ce (D, aG oC oM aC aM, k, A, t, K, V) v0 w0 142) := rfl
theorem gl_143 : (LG k oC oM aC aM)[idP 143]? = some (aG oC oM aC aM 143, ce (D, aG oC oM aC aM, k, A, t, K, V) v0 w0 143) := rfl
theorem gl_144 : (LG k oC oM aC aM)[idP 144]? = some (aG oC oM aC aM 144, ce (D, aG oC oM aC aM, k, A, t, K, V) v0 w0 144) := rfl
end GL
