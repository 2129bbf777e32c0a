section GK0
variable (D : va_G) (k : Nat → ClassId) (A : Nat → Prop) (t K V : Nat → Nat) (oC oM : Nat) (aC aM : Nat → Nat)
theorem gk_0 : ∀ i, i < 12 → 0 + i = 1 ∨ (LG k oC oM aC aM)[idP (0 + i)]? = some (aG oC oM aC aM (0 + i), ce (D, aG oC oM aC aM, k, A, t, K, V) v0 w0 (0 + i)) := by
  intro i hi
  match i, hi with
  | 0, _ => exact Or.inr (gl_0 D k A t K V oC oM aC aM)
  | 1, _ => exact Or.inl rfl
  | 2, _ => exact Or.inr (gl_2 D k A t K V oC oM aC aM)
  | 3, _ => exact Or.inr (gl_3 D k A t K V oC oM aC aM)
  | 4, _ => exact Or.inr (gl_4 D k A t K V oC oM aC aM)
  | 5, _ => exact Or.inr (gl_5 D k A t K V oC oM aC aM)
  | 6, _ => exact Or.inr (gl_6 D k A t K V oC oM aC aM)
  | 7, _ => exact Or.inr (gl_7 D k A t K V oC oM aC aM)
  | 8, _ => exact Or.inr (gl_8 D k A t K V oC oM aC aM)
  | 9, _ => exact Or.inr (gl_9 D k A t K V oC oM aC aM)
  | 10, _ => exact Or.inr (gl_10 D k A t K V oC oM aC aM)
  | 11, _ => exact Or.inr (gl_11 D k A t K V oC oM aC aM)
  | n + 12, h => exact absurd h (by omega)
theorem gk_12 : ∀ i, i < 12 → 12 + i = 1 ∨ (LG k oC oM aC aM)[idP (12 + i)]? = some (aG oC oM aC aM (12 + i), ce (D, aG oC oM aC aM, k, A, t, K, V) v0 w0 (12 + i)) := by
  intro i hi
  match i, hi with
  | 0, _ => exact Or.inr (gl_12 D k A t K V oC oM aC aM)
  | 1, _ => exact Or.inr (gl_13 D k A t K V oC oM aC aM)
  | 2, _ => exact Or.inr (gl_14 D k A t K V oC oM aC aM)
  | 3, _ => exact Or.inr (gl_15 D k A t K V oC oM aC aM)
  | 4, _ => exact Or.inr (gl_16 D k A t K V oC oM aC aM)
  | 5, _ => exact Or.inr (gl_17 D k A t K V oC oM aC aM)
  | 6, _ => exact Or.inr (gl_18 D k A t K V oC oM aC aM)
  | 7, _ => exact Or.inr (gl_19 D k A t K V oC oM aC aM)
  | 8, _ => exact Or.inr (gl_20 D k A t K V oC oM aC aM)
  | 9, _ => exact Or.inr (gl_21 D k A t K V oC oM aC aM)
  | 10, _ => exact Or.inr (gl_22 D k A t K V oC oM aC aM)
  | 11, _ => exact Or.inr (gl_23 D k A t K V oC oM aC aM)
  | n + 12, h => exact absurd h (by omega)
theorem gk_24 : ∀ i, i < 12 → 24 + i = 1 ∨ (LG k oC oM aC aM)[idP (24 + i)]? = some (aG oC oM aC aM (24 + i), ce (D, aG oC oM aC aM, k, A, t, K, V) v0 w0 (24 + i)) := by
  intro i hi
  match i, hi with
  | 0, _ => exact Or.inr (gl_24 D k A t K V oC oM aC aM)
  | 1, _ => exact Or.inr (gl_25 D k A t K V oC oM aC aM)
  | 2, _ => exact Or.inr (gl_26 D k A t K V oC oM aC aM)
  | 3, _ => exact Or.inr (gl_27 D k A t K V oC oM aC aM)
  | 4, _ => exact Or.inr (gl_28 D k A t K V oC oM aC aM)
  | 5, _ => exact Or.inr (gl_29 D k A t K V oC oM aC aM)
  | 6, _ => exact Or.inr (gl_30 D k A t K V oC oM aC aM)
  | 7, _ => exact Or.inr (gl_31 D k A t K V oC oM aC aM)
  | 8, _ => exact Or.inr (gl_32 D k A t K V oC oM aC aM)
  | 9, _ => exact Or.inr (gl_33 D k A t K V oC oM aC aM)
  | 10, _ => exact Or.inr (gl_34 D k A t K V oC oM aC aM)
  | 11, _ => exact Or.inr (gl_35 D k A t K V oC oM aC aM)
  | n + 12, h => exact absurd h (by omega)
theorem gk_36 : ∀ i, i < 12 → 36 + i = 1 ∨ (LG k oC oM aC aM)[idP (36 + i)]? = some (aG oC oM aC aM (36 + i), ce (D, aG oC oM aC aM, k, A, t, K, V) v0 w0 (36 + i)) := by
  intro i hi
  match i, hi with
  | 0, _ => exact Or.inr (gl_36 D k A t K V oC oM aC aM)
  | 1, _ => exact Or.inr (gl_37 D k A t K V oC oM aC aM)
  | 2, _ => exact Or.inr (gl_38 D k A t K V oC oM aC aM)
  | 3, _ => exact Or.inr (gl_39 D k A t K V oC oM aC aM)
  | 4, _ => exact Or.inr (gl_40 D k A t K V oC oM aC aM)
  | 5, _ => exact Or.inr (gl_41 D k A t K V oC oM aC aM)
  | 6, _ => exact Or.inr (gl_42 D k A t K V oC oM aC aM)
  | 7, _ => exact Or.inr (gl_43 D k A t K V oC oM aC aM)
  | 8, _ => exact Or.inr (gl_44 D k A t K V oC oM aC aM)
  | 9, _ => exact Or.inr (gl_45 D k A t K V oC oM aC aM)
  | 10, _ => exact Or.inr (gl_46 D k A t K V oC oM aC aM)
  | 11, _ => exact Or.inr (gl_47 D k A t K V oC oM aC aM)
  | n + 12, h => exact absurd h (by omega)
theorem gk_48 : ∀ i, i < 12 → 48 + i = 1 ∨ (LG k oC oM aC aM)[idP (48 + i)]? = some (aG oC oM aC aM (48 + i), ce (D, aG oC oM aC aM, k, A, t, K, V) v0 w0 (48 + i)) := by
  intro i hi
  match i, hi with
  | 0, _ => exact Or.inr (gl_48 D k A t K V oC oM aC aM)
  | 1, _ => exact Or.inr (gl_49 D k A t K V oC oM aC aM)
  | 2, _ => exact Or.inr (gl_50 D k A t K V oC oM aC aM)
  | 3, _ => exact Or.inr (gl_51 D k A t K V oC oM aC aM)
  | 4, _ => exact Or.inr (gl_52 D k A t K V oC oM aC aM)
  | 5, _ => exact Or.inr (gl_53 D k A t K V oC oM aC aM)
  | 6, _ => exact Or.inr (gl_54 D k A t K V oC oM aC aM)
  | 7, _ => exact Or.inr (gl_55 D k A t K V oC oM aC aM)
  | 8, _ => exact Or.inr (gl_56 D k A t K V oC oM aC aM)
  | 9, _ => exact Or.inr (gl_57 D k A t K V oC oM aC aM)
  | 10, _ => exact Or.inr (gl_58 D k A t K V oC oM aC aM)
  | 11, _ => exact Or.inr (gl_59 D k A t K V oC oM aC aM)
  | n + 12, h => exact absurd h (by omega)
theorem gk_60 : ∀ i, i < 12 → 60 + i = 1 ∨ (LG k oC oM aC aM)[idP (60 + i)]? = some (aG oC oM aC aM (60 + i), ce (D, aG oC oM aC aM, k, A, t, K, V) v0 w0 (60 + i)) := by
  intro i hi
  match i, hi with
  | 0, _ => exact Or.inr (gl_60 D k A t K V oC oM aC aM)
  | 1, _ => exact Or.inr (gl_61 D k A t K V oC oM aC aM)
  | 2, _ => exact Or.inr (gl_62 D k A t K V oC oM aC aM)
  | 3, _ => exact Or.inr (gl_63 D k A t K V oC oM aC aM)
  | 4, _ => exact Or.inr (gl_64 D k A t K V oC oM aC aM)
  | 5, _ => exact Or.inr (gl_65 D k A t K V oC oM aC aM)
  | 6, _ => exact Or.inr (gl_66 D k A t K V oC oM aC aM)
  | 7, _ => exact Or.inr (gl_67 D k A t K V oC oM aC aM)
  | 8, _ => exact Or.inr (gl_68 D k A t K V oC oM aC aM)
  | 9, _ => exact Or.inr (gl_69 D k A t K V oC oM aC aM)
  | 10, _ => exact Or.inr (gl_70 D k A t K V oC oM aC aM)
  | 11, _ => exact Or.inr (gl_71 D k A t K V oC oM aC aM)
  | n + 12, h => exact absurd h (by omega)
theorem gk_72 : ∀ i, i < 12 → 72 + i = 1 ∨ (LG k oC oM aC aM)[idP (72 + i)]? = some (aG oC oM aC aM (72 + i), ce (D, aG oC oM aC aM, k, A, t, K, V) v0 w0 (72 + i)) := by
  intro i hi
  match i, hi with
  | 0, _ => exact Or.inr (gl_72 D k A t K V oC oM aC aM)
  | 1, _ => exact Or.inr (gl_73 D k A t K V oC oM aC aM)
  | 2, _ => exact Or.inr (gl_74 D k A t K V oC oM aC aM)
  | 3, _ => exact Or.inr (gl_75 D k A t K V oC oM aC aM)
  | 4, _ => exact Or.inr (gl_76 D k A t K V oC oM aC aM)
  | 5, _ => exact Or.inr (gl_77 D k A t K V oC oM aC aM)
  | 6, _ => exact Or.inr (gl_78 D k A t K V oC oM aC aM)
  | 7, _ => exact Or.inr (gl_79 D k A t K V oC oM aC aM)
  | 8, _ => exact Or.inr (gl_80 D k A t K V oC oM aC aM)
  | 9, _ => exact Or.inr (gl_81 D k A t K V oC oM aC aM)
  | 10, _ => exact Or.inr (gl_82 D k A t K V oC oM aC aM)
  | 11, _ => exact Or.inr (gl_83 D k A t K V oC oM aC aM)
  | n + 12, h => exact absurd h (by omega)
theorem gk_84 : ∀ i, i < 12 → 84 + i = 1 ∨ (LG k oC oM aC aM)[idP (84 + i)]? = some (aG oC oM aC aM (84 + i), ce (D, aG oC oM aC aM, k, A, t, K, V) v0 w0 (84 + i)) := by
  intro i hi
  match i, hi with
  | 0, _ => exact Or.inr (gl_84 D k A t K V oC oM aC aM)
  | 1, _ => exact Or.inr (gl_85 D k A t K V oC oM aC aM)
  | 2, _ => exact Or.inr (gl_86 D k A t K V oC oM aC aM)
  | 3, _ => exact Or.inr (gl_87 D k A t K V oC oM aC aM)
  | 4, _ => exact Or.inr (gl_88 D k A t K V oC oM aC aM)
  | 5, _ => exact Or.inr (gl_89 D k A t K V oC oM aC aM)
  | 6, _ => exact Or.inr (gl_90 D k A t K V oC oM aC aM)
  | 7, _ => exact Or.inr (gl_91 D k A t K V oC oM aC aM)
  | 8, _ => exact Or.inr (gl_92 D k A t K V oC oM aC aM)
  | 9, _ => exact Or.inr (gl_93 D k A t K V oC oM aC aM)
  | 10, _ => exact Or.inr (gl_94 D k A t K V oC oM aC aM)
  | 11, _ => exact Or.inr (gl_95 D k A t K V oC oM aC aM)
  | n + 12, h => exact absurd h (by omega)
theorem gk_96 : ∀ i, i < 12 → 96 + i = 1 ∨ (LG k oC oM aC aM)[idP (96 + i)]? = some (aG oC oM aC aM (96 + i), ce (D, aG oC oM aC aM, k, A, t, K, V) v0 w0 (96 + i)) := by
  intro i hi
  match i, hi with
  | 0, _ => exact Or.inr (gl_96 D k A t K V oC oM aC aM)
  | 1, _ => exact Or.inr (gl_97 D k A t K V oC oM aC aM)
  | 2, _ => exact Or.inr (gl_98 D k A t K V oC oM aC aM)
  | 3, _ => exact Or.inr (gl_99 D k A t K V oC oM aC aM)
  | 4, _ => exact Or.inr (gl_100 D k A t K V oC oM aC aM)
  | 5, _ => exact Or.inr (gl_101 D k A t K V oC oM aC aM)
  | 6, _ => exact Or.inr (gl_102 D k A t K V oC oM aC aM)
  | 7, _ => exact Or.inr (gl_103 D k A t K V oC oM aC aM)
  | 8, _ => exact Or.inr (gl_104 D k A t K V oC oM aC aM)
  | 9, _ => exact Or.inr (gl_105 D k A t K V oC oM aC aM)
  | 10, _ => exact Or.inr (gl_106 D k A t K V oC oM aC aM)
  | 11, _ => exact Or.inr (gl_107 D k A t K V oC oM aC aM)
  | n + 12, h => exact absurd h (by omega)
theorem gk_108 : ∀ i, i < 12 → 108 + i = 1 ∨ (LG k oC oM aC aM)[idP (108 + i)]? = some (aG oC oM aC aM (108 + i), ce (D, aG oC oM aC aM, k, A, t, K, V) v0 w0 (108 + i)) := by
  intro i hi
  match i, hi with
  | 0, _ => exact Or.inr (gl_108 D k A t K V oC oM aC aM)
  | 1, _ => exact Or.inr (gl_109 D k A t K V oC oM aC aM)
  | 2, _ => exact Or.inr (gl_110 D k A t K V oC oM aC aM)
  | 3, _ => exact Or.inr (gl_111 D k A t K V oC oM aC aM)
  | 4, _ => exact Or.inr (gl_112 D k A t K V oC oM aC aM)
  | 5, _ => exact Or.inr (gl_113 D k A t K V oC oM aC aM)
  | 6, _ => exact Or.inr (gl_114 D k A t K V oC oM aC aM)
  | 7, _ => exact Or.inr (gl_115 D k A t K V oC oM aC aM)
  | 8, _ => exact Or.inr (gl_116 D k A t K V oC oM aC aM)
  | 9, _ => exact Or.inr (gl_117 D k A t K V oC oM aC aM)
  | 10, _ => exact Or.inr (gl_118 D k A t K V oC oM aC aM)
  | 11, _ => exact Or.inr (gl_119 D k A t K V oC oM aC aM)
  | n + 12, h => exact absurd h (by omega)
theorem gk_120 : ∀ i, i < 12 → 120 + i = 1 ∨ (LG k oC oM aC aM)[idP (120 + i)]? = some (aG oC oM aC aM (120 + i), ce (D, aG oC oM aC aM, k, A, t, K, V) v0 w0 (120 + i)) := by
  intro i hi
  match i, hi with
  | 0, _ => exact Or.inr (gl_120 D k A t K V oC oM aC aM)
  | 1, _ => exact Or.inr (gl_121 D k A t K V oC oM aC aM)
  | 2, _ => exact Or.inr (gl_122 D k A t K V oC oM aC aM)
  | 3, _ => exact Or.inr (gl_123 D k A t K V oC oM aC aM)
  | 4, _ => exact Or.inr (gl_124 D k A t K V oC oM aC aM)
  | 5, _ => exact Or.inr (gl_125 D k A t K V oC oM aC aM)
  | 6, _ => exact Or.inr (gl_126 D k A t K V oC oM aC aM)
  | 7, _ => exact Or.inr (gl_127 D k A t K V oC oM aC aM)
  | 8, _ => exact Or.inr (gl_128 D k A t K V oC oM aC aM)
  | 9, _ => exact Or.inr (gl_129 D k A t K V oC oM aC aM)
  | 10, _ => exact Or.inr (gl_130 D k A t K V oC oM aC aM)
  | 11, _ => exact Or.inr (gl_131 D k A t K V oC oM aC aM)
  | n + 12, h => exact absurd h (by omega)
theorem gk_132 : ∀ i, i < 12 → 132 + i = 1 ∨ (LG k oC oM aC aM)[idP (132 + i)]? = some (aG oC oM aC aM (132 + i), ce (D, aG oC oM aC aM, k, A, t, K, V) v0 w0 (132 + i)) := by
  intro i hi
  match i, hi with
  | 0, _ => exact Or.inr (gl_132 D k A t K V oC oM aC aM)
  | 1, _ => exact Or.inr (gl_133 D k A t K V oC oM aC aM)
  | 2, _ => exact Or.inr (gl_134 D k A t K V oC oM aC aM)
  | 3, _ => exact Or.inr (gl_135 D k A t K V oC oM aC aM)
  | 4, _ => exact Or.inr (gl_136 D k A t K V oC oM aC aM)
  | 5, _ => exact Or.inr (gl_137 D k A t K V oC oM aC aM)
  | 6, _ => exact Or.inr (gl_138 D k A t K V oC oM aC aM)
  | 7, _ => exact Or.inr (gl_139 D k A t K V oC oM aC aM)
  | 8, _ => exact Or.inr (gl_140 D k A t K V oC oM aC aM)
  | 9, _ => exact Or.inr (gl_141 D k A t K V oC oM aC aM)
  | 10, _ => exact Or.inr (gl_142 D k A t K V oC oM aC aM)
  | 11, _ => exact Or.inr (gl_143 D k A t K V oC oM aC aM)
  | n + 12, h => exact absurd h (by omega)
theorem gk_144 : ∀ i, i < 1 → 144 + i = 1 ∨ (LG k oC oM aC aM)[idP (144 + i)]? = some (aG oC oM aC aM (144 + i), ce (D, aG oC oM aC aM, k, A, t, K, V) v0 w0 (144 + i)) := by
  intro i hi
  match i, hi with
  | 0, _ => exact Or.inr (gl_144 D k A t K V oC oM aC aM)
  | n + 1, h => exact absurd h (by omega)
theorem gk : ∀ i, i < 145 → i = 1 ∨ (LG k oC oM aC aM)[idP i]? = some (aG oC oM aC aM i, ce (D, aG oC oM aC aM, k, A, t, K, V) v0 w0 i) := by
  intro i hi
  rcases (show (0 ≤ i ∧ i < 12) ∨ (12 ≤ i ∧ i < 24) ∨ (24 ≤ i ∧ i < 36) ∨ (36 ≤ i ∧ i < 48) ∨ (48 ≤ i ∧ i < 60) ∨ (60 ≤ i ∧ i < 72) ∨ (72 ≤ i ∧ i < 84) ∨ (84 ≤ i ∧ i < 96) ∨ (96 ≤ i ∧ i < 108) ∨ (108 ≤ i ∧ i < 120) ∨ (120 ≤ i ∧ i < 132) ∨ (132 ≤ i ∧ i < 144) ∨ (144 ≤ i ∧ i < 145) by omega) with ⟨h1, h2⟩ | ⟨h1, h2⟩ | ⟨h1, h2⟩ | ⟨h1, h2⟩ | ⟨h1, h2⟩ | ⟨h1, h2⟩ | ⟨h1, h2⟩ | ⟨h1, h2⟩ | ⟨h1, h2⟩ | ⟨h1, h2⟩ | ⟨h1, h2⟩ | ⟨h1, h2⟩ | ⟨h1, h2⟩
  · have q := gk_0 D k A t K V oC oM aC aM (i - 0) (by omega)
    rw [show 0 + (i - 0) = i by omega] at q
    exact q
  · have q := gk_12 D k A t K V oC oM aC aM (i - 12) (by omega)
    rw [show 12 + (i - 12) = i by omega] at q
    exact q
  · have q := gk_24 D k A t K V oC oM aC aM (i - 24) (by omega)
    rw [show 24 + (i - 24) = i by omega] at q
    exact q
  · have q := gk_36 D k A t K V oC oM aC aM (i - 36) (by omega)
    rw [show 36 + (i - 36) = i by omega] at q
    exact q
  · have q := gk_48 D k A t K V oC oM aC aM (i - 48) (by omega)
    rw [show 48 + (i - 48) = i by omega] at q
    exact q
  · have q := gk_60 D k A t K V oC oM aC aM (i - 60) (by omega)
    rw [show 60 + (i - 60) = i by omega] at q
    exact q
  · have q := gk_72 D k A t K V oC oM aC aM (i - 72) (by omega)
    rw [show 72 + (i - 72) = i by omega] at q
    exact q
  · have q := gk_84 D k A t K V oC oM aC aM (i - 84) (by omega)
    rw [show 84 + (i - 84) = i by omega] at q
    exact q
  · have q := gk_96 D k A t K V oC oM aC aM (i - 96) (by omega)
    rw [show 96 + (i - 96) = i by omega] at q
    exact q
  · have q := gk_108 D k A t K V oC oM aC aM (i - 108) (by omega)
    rw [show 108 + (i - 108) = i by omega] at q
    exact q
  · have q := gk_120 D k A t K V oC oM aC aM (i - 120) (by omega)
    rw [show 120 + (i - 120) = i by omega] at q
    exact q
  · have q := gk_132 D k A t K V oC oM aC aM (i - 132) (by omega)
    rw [show 132 + (i - 132) = i by omega] at q
    exact q
  · have q := gk_144 D k A t K V oC oM aC aM (i - 144) (by omega)
    rw [show 144 + (i - 144) = i by omega] at q
    exact q
theorem gk_e (i : Nat) (hi : i < 145) : ∃ q : va_E, (LG k oC oM aC aM)[idP i]? = some (aG oC oM aC aM i, q) := by
  rcases gk (fun _ => 0, fun _ _ => 0) k (fun _ => True) id id id oC oM aC aM i hi with rfl | h
  · exact ⟨_, gl_1 k oC oM aC aM⟩
  · exact ⟨_, h⟩
theorem id_inj : ∀ i, i < 145 → ∀ j, j < 145 → idP i = idP j → i = j := by decide +kernel
theorem larr_at : ∀ j, j < 6 → va_rf (larr aC j) = va_rf (some (aG oC oM aC aM (9 + 7 * j))) := by
  intro j hj
  match j, hj with
  | 0, _ => rfl
  | 1, _ => rfl
  | 2, _ => rfl
  | 3, _ => rfl
  | 4, _ => rfl
  | 5, _ => rfl
  | n + 6, h => exact absurd h (by omega)
theorem arrV_cong {cA : ClassId} {N : Nat} {f g : Nat → Value} (h : ∀ j, j < N → f j = g j) : arrV cA N f = arrV cA N g := by
  have q : (fun j : Fin N => f j.val) = (fun j : Fin N => g j.val) := funext (fun j => h j.val j.isLt)
  unfold arrV
  rw [q]
theorem first_world {H : Heap} (hP : va_P D vwCl (LG k oC oM aC aM) H) (hD : va_D A (LG k oC oM aC aM)) : va_P D vwCl (wd (D, aG oC oM aC aM, k, A, t, K, V) v0 w0) H ∧ Zo (D, aG oC oM aC aM, k, A, t, K, V) := by
  refine ⟨fun i q hq => ?_, fun i j hi hj e => ?_, fun i hi => ?_⟩
  · have hi : i < 145 := by
      have z := (List.getElem?_eq_some_iff.mp hq).1
      unfold wd at z
      rw [List.length_map, List.length_range] at z
      exact z
    rw [wd_at hi] at hq
    cases hq
    rcases gk D k A t K V oC oM aC aM i hi with rfl | h
    · have z := hP _ _ (gl_1 k oC oM aC aM)
      have z : H[aG oC oM aC aM 1]? = some (vp_cell (k 13) (6, .inr (.inr (.inr (.inr (larr aC)))))) := z
      show H[aG oC oM aC aM 1]? = some (vp_cell (k 13) (6, .inr (.inr (.inr (.inr (fun j => some (aG oC oM aC aM (9 + 7 * j))))))))
      rw [z, vp_cell_q, vp_cell_q, arrV_cong (larr_at oC oM aC aM)]
    · exact hP _ _ h
  · obtain ⟨q1, h1⟩ := gk_e k oC oM aC aM i hi
    obtain ⟨q2, h2⟩ := gk_e k oC oM aC aM j hj
    exact id_inj i hi j hj (hD.1 _ _ _ _ h1 h2 e)
  · obtain ⟨q1, h1⟩ := gk_e k oC oM aC aM i hi
    exact hD.2 _ _ h1
end GK0
theorem r6_at {f : Nat → Int32} : ∀ q, q < 6 → r6 f q = f q := by
  intro q hq
  match q, hq with
  | 0, _ => rfl
  | 1, _ => rfl
  | 2, _ => rfl
  | 3, _ => rfl
  | 4, _ => rfl
  | 5, _ => rfl
  | n + 6, h => exact absurd h (by omega)
theorem dB_z : ∀ q, q < 6 → dB 0 q = 0 := by decide
theorem x0_eq : xC v0 51 0 = xM v0 0 [] := by
  funext i q
  match i with
  | 0 => match q with
    | 0 => rfl
    | 1 => rfl
    | 2 => rfl
    | 3 => rfl
    | 4 => rfl
    | 5 => decide
    | 6 => decide
    | 7 => decide
    | n + 8 => rfl
  | 1 => rfl
  | 2 => rfl
  | 3 => rfl
  | 4 => rfl
  | 5 =>
    by_cases h : q < 6
    · show (if q < 6 then dB (v0 52 7) q else 0) = (if q < 6 then v0 121 q else 0)
      rw [if_pos h, if_pos h]
      exact dB_z q h
    · show (if q < 6 then dB (v0 52 7) q else 0) = (if q < 6 then v0 121 q else 0)
      rw [if_neg h, if_neg h]
  | 6 => rfl
  | 7 => rfl
  | n + 8 => rfl
theorem RX_0 : RX 0 9999 (xM v0 0 []) := by
  refine ⟨fun q hq => absurd hq (Nat.not_lt_zero q), ⟨by decide, by decide⟩, ⟨by decide, by decide⟩, ⟨by decide, by decide⟩, ⟨0, by omega, rfl, fun i hi => absurd hi (Nat.not_lt_zero i)⟩, ⟨by decide, by decide⟩, ⟨by decide, by decide⟩⟩
theorem rep_0 : repC v0 2 [] := by
  refine ⟨⟨by decide, by decide, by decide⟩, by decide, fun i hi => ?_, fun i hi => absurd hi (Nat.not_lt_zero i)⟩
  have h : i = 0 := Nat.le_zero.mp hi
  subst h
  exact Nat.zero_le _
theorem inv0 : INV v0 w0 0 0 0 0 (fun _ => []) := by
  refine ⟨Nat.le_refl 0, ⟨⟨rfl, rfl, by omega⟩, fun i hi => absurd hi (Nat.not_lt_zero i), rep_0, ⟨rfl, by omega⟩, 0, rfl⟩, ⟨⟨rfl, by omega⟩, x0_eq, RX_0, ⟨rfl, rfl, rfl, rfl, rfl⟩, ⟨rfl, rfl⟩, fun q hq => r6_at (f := nI) q hq, fun q hq => r6_at (f := nI) q hq⟩, ⟨rfl, 0, rfl, rfl, by omega, fun i hi => absurd hi (Nat.not_lt_zero i)⟩, ⟨0, 0, 0, ⟨rfl, rfl⟩, ⟨rfl, rfl⟩, ⟨rfl, rfl⟩, ⟨by omega, fun i hi => absurd hi (Nat.not_lt_zero i)⟩, ⟨by omega, fun i hi => absurd hi (Nat.not_lt_zero i)⟩, ⟨by omega, fun i hi => absurd hi (Nat.not_lt_zero i)⟩⟩, Or.inl ⟨rfl, rfl⟩, ⟨0, rfl, rfl, by omega, fun i hi => absurd hi (by omega)⟩, ⟨rfl, rfl, fun q hq => Or.inl ⟨r6_at (f := fun _ => -1) q hq, rfl⟩, fun _ _ _ _ _ _ _ => rfl⟩⟩
