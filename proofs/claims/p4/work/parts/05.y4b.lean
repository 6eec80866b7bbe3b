section FMS
variable {T T2 : CT} {q : Nat} {v : Int}
theorem fm_0 (g : GT T T2) (h : FO 0 q T v) : FO 0 q T2 v := by
  obtain ⟨x, hx, hk⟩ := h
  exact ⟨x, hx, by rw [g x (by omega) (by omega)]; exact hk⟩
theorem fm_1 (g : GT T T2) (h : FO 1 q T v) : FO 1 q T2 v := by
  obtain ⟨x, hx, hk⟩ := h
  exact ⟨x, hx, by rw [g x (by omega) (by omega)]; exact hk⟩
theorem fm_2 (g : GT T T2) (h : FO 2 q T v) : FO 2 q T2 v := h
theorem fm_3 (g : GT T T2) (h : FO 3 q T v) : FO 3 q T2 v := h
theorem fm_4 (g : GT T T2) (h : FO 4 q T v) : FO 4 q T2 v := h
theorem fm_5 (g : GT T T2) (h : FO 5 q T v) : FO 5 q T2 v := by
  obtain ⟨x, hx, hl, h1, h2⟩ := h
  have e := g x (by omega) (by omega)
  exact ⟨x, hx, by rw [e]; exact hl, by rw [e]; exact h1, by rw [e]; exact h2⟩
theorem fm_6 (g : GT T T2) (h : FO 6 q T v) : FO 6 q T2 v := h
theorem fm_7 (g : GT T T2) (h : FO 7 q T v) : FO 7 q T2 v := h
theorem fm_8 (g : GT T T2) (h : FO 8 q T v) : FO 8 q T2 v := h
theorem fm_9 (g : GT T T2) (h : FO 9 q T v) : FO 9 q T2 v := h
theorem fm_10 (g : GT T T2) (h : FO 10 q T v) : FO 10 q T2 v := h
theorem fm_11 (g : GT T T2) (h : FO 11 q T v) : FO 11 q T2 v := by
  obtain ⟨x, hx, hk, hl⟩ := h
  exact ⟨x, hx, by unfold AR; rw [g x (by omega) (by omega)]; exact ⟨hk, hl⟩⟩
theorem fm_12 (g : GT T T2) (h : FO 12 q T v) : FO 12 q T2 v := by
  obtain ⟨x, hx, hk, hl⟩ := h
  exact ⟨x, hx, by unfold AR; rw [g x (by omega) (by omega)]; exact ⟨hk, hl⟩⟩
theorem fm_13 (g : GT T T2) (h : FO 13 q T v) : FO 13 q T2 v := by
  obtain ⟨x, hx, hk, hl⟩ := h
  exact ⟨x, hx, by unfold AR; rw [g x (by omega) (by omega)]; exact ⟨hk, hl⟩⟩
theorem fm_14 (g : GT T T2) (h : FO 14 q T v) : FO 14 q T2 v := by
  obtain ⟨x, hx, hk, hl⟩ := h
  exact ⟨x, hx, by unfold AR; rw [g x (by omega) (by omega)]; exact ⟨hk, hl⟩⟩
theorem fm_15 (g : GT T T2) (h : FO 15 q T v) : FO 15 q T2 v := by
  obtain ⟨x, hx, hk, hl⟩ := h
  exact ⟨x, hx, by unfold AR; rw [g x (by omega) (by omega)]; exact ⟨hk, hl⟩⟩
theorem fm_16 (g : GT T T2) (h : FO 16 q T v) : FO 16 q T2 v := by
  obtain ⟨x, hx, hk, hl⟩ := h
  exact ⟨x, hx, by unfold AR; rw [g x (by omega) (by omega)]; exact ⟨hk, hl⟩⟩
theorem fm_17 (g : GT T T2) (h : FO 17 q T v) : FO 17 q T2 v := by
  obtain ⟨x, hx, hk⟩ := h
  exact ⟨x, hx, by rw [g x (by omega) (by omega)]; exact hk⟩
theorem fm_18 (g : GT T T2) (h : FO 18 q T v) : FO 18 q T2 v := by
  obtain ⟨x, hx, hk, hl⟩ := h
  exact ⟨x, hx, by unfold AR; rw [g x (by omega) (by omega)]; exact ⟨hk, hl⟩⟩
theorem fm_19 (g : GT T T2) (h : FO 19 q T v) : FO 19 q T2 v := by
  obtain ⟨x, hx, hk, hl⟩ := h
  exact ⟨x, hx, by unfold AR; rw [g x (by omega) (by omega)]; exact ⟨hk, hl⟩⟩
theorem fm_20 (g : GT T T2) (h : FO 20 q T v) : FO 20 q T2 v := by
  obtain ⟨x, hx, hk, hl⟩ := h
  exact ⟨x, hx, by unfold AR; rw [g x (by omega) (by omega)]; exact ⟨hk, hl⟩⟩
theorem fm_21 (g : GT T T2) (h : FO 21 q T v) : FO 21 q T2 v := by
  obtain ⟨x, hx, hk, hl⟩ := h
  exact ⟨x, hx, by unfold AR; rw [g x (by omega) (by omega)]; exact ⟨hk, hl⟩⟩
theorem fm_22 (g : GT T T2) (h : FO 22 q T v) : FO 22 q T2 v := h
theorem fm_23 (g : GT T T2) (h : FO 23 q T v) : FO 23 q T2 v := by
  obtain ⟨x, hx, hk⟩ := h
  exact ⟨x, hx, by rw [g x (by omega) (by omega)]; exact hk⟩
theorem fm_24 (g : GT T T2) (h : FO 24 q T v) : FO 24 q T2 v := by
  obtain ⟨x, hx, hk, hl⟩ := h
  exact ⟨x, hx, by unfold AR; rw [g x (by omega) (by omega)]; exact ⟨hk, hl⟩⟩
theorem fm_25 (g : GT T T2) (h : FO 25 q T v) : FO 25 q T2 v := by
  rcases h with h | ⟨x, hx, hk⟩
  · exact Or.inl h
  · exact Or.inr ⟨x, hx, by rw [g x (by omega) (by omega)]; exact hk⟩
theorem fm_26 (g : GT T T2) (h : FO 26 q T v) : FO 26 q T2 v := by
  rcases h with h | ⟨x, hx, hk⟩
  · exact Or.inl h
  · exact Or.inr ⟨x, hx, by rw [g x (by omega) (by omega)]; exact hk⟩
theorem fm_27 (g : GT T T2) (h : FO 27 q T v) : FO 27 q T2 v := h
theorem fm_28 (g : GT T T2) (h : FO 28 q T v) : FO 28 q T2 v := h
theorem fm_29 (g : GT T T2) (h : FO 29 q T v) : FO 29 q T2 v := h
theorem fm_30 (g : GT T T2) (h : FO 30 q T v) : FO 30 q T2 v := h
theorem fm_31 (g : GT T T2) (h : FO 31 q T v) : FO 31 q T2 v := h
theorem fm_32 (g : GT T T2) (h : FO 32 q T v) : FO 32 q T2 v := h
theorem fm_33 (g : GT T T2) (h : FO 33 q T v) : FO 33 q T2 v := by
  obtain ⟨x, hx, hk⟩ := h
  exact ⟨x, hx, by rw [g x (by omega) (by omega)]; exact hk⟩
theorem fm_34 (g : GT T T2) (h : FO 34 q T v) : FO 34 q T2 v := by
  obtain ⟨x, hx, hk, hl⟩ := h
  exact ⟨x, hx, by unfold AR; rw [g x (by omega) (by omega)]; exact ⟨hk, hl⟩⟩
theorem fm_35 (g : GT T T2) (h : FO 35 q T v) : FO 35 q T2 v := by
  obtain ⟨x, hx, hk⟩ := h
  exact ⟨x, hx, by rw [g x (by omega) (by omega)]; exact hk⟩
theorem fm_36 (g : GT T T2) (h : FO 36 q T v) : FO 36 q T2 v := by
  obtain ⟨x, hx, hk, hl⟩ := h
  exact ⟨x, hx, by unfold AR; rw [g x (by omega) (by omega)]; exact ⟨hk, hl⟩⟩
theorem fm_37 (g : GT T T2) (h : FO 37 q T v) : FO 37 q T2 v := by
  obtain ⟨x, hx, hk, hl⟩ := h
  exact ⟨x, hx, by unfold AR; rw [g x (by omega) (by omega)]; exact ⟨hk, hl⟩⟩
theorem fm_38 (g : GT T T2) (h : FO 38 q T v) : FO 38 q T2 v := h
theorem fm_39 (g : GT T T2) (h : FO 39 q T v) : FO 39 q T2 v := by
  obtain ⟨x, hx, hk, hl⟩ := h
  exact ⟨x, hx, by unfold AR; rw [g x (by omega) (by omega)]; exact ⟨hk, hl⟩⟩
theorem fm_40 (g : GT T T2) (h : FO 40 q T v) : FO 40 q T2 v := by
  obtain ⟨x, hx, hk, hl⟩ := h
  exact ⟨x, hx, by unfold AR; rw [g x (by omega) (by omega)]; exact ⟨hk, hl⟩⟩
theorem fm_41 (g : GT T T2) (h : FO 41 q T v) : FO 41 q T2 v := by
  obtain ⟨x, hx, hk, hl⟩ := h
  exact ⟨x, hx, by unfold AR; rw [g x (by omega) (by omega)]; exact ⟨hk, hl⟩⟩
theorem fm_42 (g : GT T T2) (h : FO 42 q T v) : FO 42 q T2 v := h
theorem fm_43 (g : GT T T2) (h : FO 43 q T v) : FO 43 q T2 v := h
theorem fm_44 (g : GT T T2) (h : FO 44 q T v) : FO 44 q T2 v := h
theorem fm_45 (g : GT T T2) (h : FO 45 q T v) : FO 45 q T2 v := h
theorem fm_46 (g : GT T T2) (h : FO 46 q T v) : FO 46 q T2 v := h
theorem fm_47 (g : GT T T2) (h : FO 47 q T v) : FO 47 q T2 v := h
theorem fm_48 (g : GT T T2) (h : FO 48 q T v) : FO 48 q T2 v := by
  obtain ⟨x, hx, hk, hl⟩ := h
  exact ⟨x, hx, by unfold AR; rw [g x (by omega) (by omega)]; exact ⟨hk, hl⟩⟩
theorem fm_49 (g : GT T T2) (h : FO 49 q T v) : FO 49 q T2 v := by
  obtain ⟨x, hx, hk, hl⟩ := h
  exact ⟨x, hx, by unfold AR; rw [g x (by omega) (by omega)]; exact ⟨hk, hl⟩⟩
theorem fm_50 (g : GT T T2) (h : FO 50 q T v) : FO 50 q T2 v := h
theorem fm_51 (g : GT T T2) (h : FO 51 q T v) : FO 51 q T2 v := h
theorem fm_52 (g : GT T T2) (h : FO 52 q T v) : FO 52 q T2 v := by
  obtain ⟨x, hx, hk, hl⟩ := h
  exact ⟨x, hx, by unfold AR; rw [g x (by omega) (by omega)]; exact ⟨hk, hl⟩⟩
theorem fm_53 (g : GT T T2) (h : FO 53 q T v) : FO 53 q T2 v := by
  obtain ⟨x, hx, hk, hl⟩ := h
  exact ⟨x, hx, by unfold AR; rw [g x (by omega) (by omega)]; exact ⟨hk, hl⟩⟩
theorem fm_54 (g : GT T T2) (h : FO 54 q T v) : FO 54 q T2 v := by
  obtain ⟨x, hx, hk, hl⟩ := h
  exact ⟨x, hx, by unfold AR; rw [g x (by omega) (by omega)]; exact ⟨hk, hl⟩⟩
theorem fm_55 (g : GT T T2) (h : FO 55 q T v) : FO 55 q T2 v := by
  obtain ⟨x, hx, hl, h1, h2⟩ := h
  have e := g x (by omega) (by omega)
  exact ⟨x, hx, by rw [e]; exact hl, by rw [e]; exact h1, by rw [e]; exact h2⟩
theorem fm_56 (g : GT T T2) (h : FO 56 q T v) : FO 56 q T2 v := h
theorem fm_57 (g : GT T T2) (h : FO 57 q T v) : FO 57 q T2 v := h
theorem fm_58 (g : GT T T2) (h : FO 58 q T v) : FO 58 q T2 v := h
theorem fm_59 (g : GT T T2) (h : FO 59 q T v) : FO 59 q T2 v := by
  obtain ⟨x, hx, hk, hl⟩ := h
  exact ⟨x, hx, by unfold AR; rw [g x (by omega) (by omega)]; exact ⟨hk, hl⟩⟩
theorem fm_60 (g : GT T T2) (h : FO 60 q T v) : FO 60 q T2 v := by
  obtain ⟨x, hx, hk, hl⟩ := h
  exact ⟨x, hx, by unfold AR; rw [g x (by omega) (by omega)]; exact ⟨hk, hl⟩⟩
theorem fm_61 (g : GT T T2) (h : FO 61 q T v) : FO 61 q T2 v := by
  obtain ⟨x, hx, hl, h1, h2⟩ := h
  have e := g x (by omega) (by omega)
  exact ⟨x, hx, by rw [e]; exact hl, by rw [e]; exact h1, by rw [e]; exact h2⟩
theorem fm_62 (g : GT T T2) (h : FO 62 q T v) : FO 62 q T2 v := by
  obtain ⟨x, hx, hk, hl⟩ := h
  exact ⟨x, hx, by unfold AR; rw [g x (by omega) (by omega)]; exact ⟨hk, hl⟩⟩
theorem fm_63 (g : GT T T2) (h : FO 63 q T v) : FO 63 q T2 v := by
  obtain ⟨x, hx, hk, hl⟩ := h
  exact ⟨x, hx, by unfold AR; rw [g x (by omega) (by omega)]; exact ⟨hk, hl⟩⟩
theorem fm_64 (g : GT T T2) (h : FO 64 q T v) : FO 64 q T2 v := by
  obtain ⟨x, hx, hk, hl⟩ := h
  exact ⟨x, hx, by unfold AR; rw [g x (by omega) (by omega)]; exact ⟨hk, hl⟩⟩
theorem fm_65 (g : GT T T2) (h : FO 65 q T v) : FO 65 q T2 v := h
theorem fm_66 (g : GT T T2) (h : FO 66 q T v) : FO 66 q T2 v := h
theorem fm_67 (g : GT T T2) (h : FO 67 q T v) : FO 67 q T2 v := h
theorem fm_68 (g : GT T T2) (h : FO 68 q T v) : FO 68 q T2 v := h
theorem fm_69 (g : GT T T2) (h : FO 69 q T v) : FO 69 q T2 v := by
  rcases h with h | ⟨x, hx, h1, h2⟩
  · exact Or.inl h
  · have e := g x (by omega) (by omega)
    exact Or.inr ⟨x, hx, by rw [e]; exact h1, by rw [e]; exact h2⟩
theorem fm_70 (g : GT T T2) (h : FO 70 q T v) : FO 70 q T2 v := h
theorem fm_71 (g : GT T T2) (h : FO 71 q T v) : FO 71 q T2 v := h
theorem fm_72 (g : GT T T2) (h : FO 72 q T v) : FO 72 q T2 v := by
  obtain ⟨x, hx, hk⟩ := h
  exact ⟨x, hx, by rw [g x (by omega) (by omega)]; exact hk⟩
theorem fm_73 (g : GT T T2) (h : FO 73 q T v) : FO 73 q T2 v := by
  obtain ⟨x, hx, hk, hl⟩ := h
  exact ⟨x, hx, by unfold AR; rw [g x (by omega) (by omega)]; exact ⟨hk, hl⟩⟩
theorem fm_74 (g : GT T T2) (h : FO 74 q T v) : FO 74 q T2 v := by
  obtain ⟨x, hx, hk, hl⟩ := h
  exact ⟨x, hx, by unfold AR; rw [g x (by omega) (by omega)]; exact ⟨hk, hl⟩⟩
theorem fm_75 (g : GT T T2) (h : FO 75 q T v) : FO 75 q T2 v := by
  obtain ⟨x, hx, hk, hl⟩ := h
  exact ⟨x, hx, by unfold AR; rw [g x (by omega) (by omega)]; exact ⟨hk, hl⟩⟩
theorem fm_76 (g : GT T T2) (h : FO 76 q T v) : FO 76 q T2 v := by
  obtain ⟨x, hx, hk, hl⟩ := h
  exact ⟨x, hx, by unfold AR; rw [g x (by omega) (by omega)]; exact ⟨hk, hl⟩⟩
theorem fm_77 (g : GT T T2) (h : FO 77 q T v) : FO 77 q T2 v := by
  obtain ⟨x, hx, hk, hl⟩ := h
  exact ⟨x, hx, by unfold AR; rw [g x (by omega) (by omega)]; exact ⟨hk, hl⟩⟩
theorem fm_78 (g : GT T T2) (h : FO 78 q T v) : FO 78 q T2 v := by
  obtain ⟨x, hx, hk, hl⟩ := h
  exact ⟨x, hx, by unfold AR; rw [g x (by omega) (by omega)]; exact ⟨hk, hl⟩⟩
theorem fm_79 (g : GT T T2) (h : FO 79 q T v) : FO 79 q T2 v := by
  obtain ⟨x, hx, hk, hl⟩ := h
  exact ⟨x, hx, by unfold AR; rw [g x (by omega) (by omega)]; exact ⟨hk, hl⟩⟩
theorem fm_80 (g : GT T T2) (h : FO 80 q T v) : FO 80 q T2 v := h
theorem fm_81 (g : GT T T2) (h : FO 81 q T v) : FO 81 q T2 v := by
  obtain ⟨x, hx, hk, hl⟩ := h
  exact ⟨x, hx, by unfold AR; rw [g x (by omega) (by omega)]; exact ⟨hk, hl⟩⟩
theorem fm_82 (g : GT T T2) (h : FO 82 q T v) : FO 82 q T2 v := by
  obtain ⟨x, hx, hk, hl⟩ := h
  exact ⟨x, hx, by unfold AR; rw [g x (by omega) (by omega)]; exact ⟨hk, hl⟩⟩
theorem fm_83 (g : GT T T2) (h : FO 83 q T v) : FO 83 q T2 v := by
  obtain ⟨x, hx, hk, hl⟩ := h
  exact ⟨x, hx, by unfold AR; rw [g x (by omega) (by omega)]; exact ⟨hk, hl⟩⟩
theorem fm_84 (g : GT T T2) (h : FO 84 q T v) : FO 84 q T2 v := h
theorem fm_85 (g : GT T T2) (h : FO 85 q T v) : FO 85 q T2 v := h
theorem fm_86 (g : GT T T2) (h : FO 86 q T v) : FO 86 q T2 v := h
theorem fm_87 (g : GT T T2) (h : FO 87 q T v) : FO 87 q T2 v := h
theorem fm_88 (g : GT T T2) (h : FO 88 q T v) : FO 88 q T2 v := by
  obtain ⟨x, hx, hk, hl⟩ := h
  exact ⟨x, hx, by unfold AR; rw [g x (by omega) (by omega)]; exact ⟨hk, hl⟩⟩
theorem fm_89 (g : GT T T2) (h : FO 89 q T v) : FO 89 q T2 v := by
  obtain ⟨x, hx, hk, hl⟩ := h
  exact ⟨x, hx, by unfold AR; rw [g x (by omega) (by omega)]; exact ⟨hk, hl⟩⟩
theorem fm_90 (g : GT T T2) (h : FO 90 q T v) : FO 90 q T2 v := by
  obtain ⟨x, hx, hk, hl⟩ := h
  exact ⟨x, hx, by unfold AR; rw [g x (by omega) (by omega)]; exact ⟨hk, hl⟩⟩
theorem fm_91 (g : GT T T2) (h : FO 91 q T v) : FO 91 q T2 v := by
  obtain ⟨x, hx, hk, hl⟩ := h
  exact ⟨x, hx, by unfold AR; rw [g x (by omega) (by omega)]; exact ⟨hk, hl⟩⟩
theorem fm_92 (g : GT T T2) (h : FO 92 q T v) : FO 92 q T2 v := by
  rcases h with h | ⟨x, hx, hk, hl⟩
  · exact Or.inl h
  · exact Or.inr ⟨x, hx, by unfold AR; rw [g x (by omega) (by omega)]; exact ⟨hk, hl⟩⟩
theorem fm_93 (g : GT T T2) (h : FO 93 q T v) : FO 93 q T2 v := h
theorem fm_94 (g : GT T T2) (h : FO 94 q T v) : FO 94 q T2 v := h
theorem fm_95 (g : GT T T2) (h : FO 95 q T v) : FO 95 q T2 v := by
  obtain ⟨x, hx, hk, hl⟩ := h
  exact ⟨x, hx, by unfold AR; rw [g x (by omega) (by omega)]; exact ⟨hk, hl⟩⟩
theorem fm_96 (g : GT T T2) (h : FO 96 q T v) : FO 96 q T2 v := h
theorem fm_97 (g : GT T T2) (h : FO 97 q T v) : FO 97 q T2 v := h
theorem fm_98 (g : GT T T2) (h : FO 98 q T v) : FO 98 q T2 v := by
  obtain ⟨x, hx, hk, hl⟩ := h
  exact ⟨x, hx, by unfold AR; rw [g x (by omega) (by omega)]; exact ⟨hk, hl⟩⟩
theorem fm_99 (g : GT T T2) (h : FO 99 q T v) : FO 99 q T2 v := by
  obtain ⟨x, hx, hk, hl⟩ := h
  exact ⟨x, hx, by unfold AR; rw [g x (by omega) (by omega)]; exact ⟨hk, hl⟩⟩
theorem fm_100 (g : GT T T2) (h : FO 100 q T v) : FO 100 q T2 v := by
  obtain ⟨x, hx, hk⟩ := h
  exact ⟨x, hx, by rw [g x (by omega) (by omega)]; exact hk⟩
theorem fm_101 (g : GT T T2) (h : FO 101 q T v) : FO 101 q T2 v := by
  obtain ⟨x, hx, hk⟩ := h
  exact ⟨x, hx, by rw [g x (by omega) (by omega)]; exact hk⟩
theorem fm_102 (g : GT T T2) (h : FO 102 q T v) : FO 102 q T2 v := by
  obtain ⟨x, hx, hk⟩ := h
  exact ⟨x, hx, by rw [g x (by omega) (by omega)]; exact hk⟩
theorem fm_103 (g : GT T T2) (h : FO 103 q T v) : FO 103 q T2 v := by
  obtain ⟨x, hx, hk⟩ := h
  exact ⟨x, hx, by rw [g x (by omega) (by omega)]; exact hk⟩
theorem fm_104 (g : GT T T2) (h : FO 104 q T v) : FO 104 q T2 v := h
theorem fm_105 (g : GT T T2) (h : FO 105 q T v) : FO 105 q T2 v := h
theorem fm_106 (g : GT T T2) (h : FO 106 q T v) : FO 106 q T2 v := by
  obtain ⟨x, hx, hk⟩ := h
  exact ⟨x, hx, by rw [g x (by omega) (by omega)]; exact hk⟩
theorem fm_107 (g : GT T T2) (h : FO 107 q T v) : FO 107 q T2 v := by
  obtain ⟨x, hx, hk⟩ := h
  exact ⟨x, hx, by rw [g x (by omega) (by omega)]; exact hk⟩
theorem fm_108 (g : GT T T2) (h : FO 108 q T v) : FO 108 q T2 v := by
  obtain ⟨x, hx, hk⟩ := h
  exact ⟨x, hx, by rw [g x (by omega) (by omega)]; exact hk⟩
theorem fm_109 (g : GT T T2) (h : FO 109 q T v) : FO 109 q T2 v := by
  obtain ⟨x, hx, hk⟩ := h
  exact ⟨x, hx, by rw [g x (by omega) (by omega)]; exact hk⟩
theorem fm_110 (g : GT T T2) (h : FO 110 q T v) : FO 110 q T2 v := by
  rcases h with h | ⟨x, hx, hk⟩
  · exact Or.inl h
  · exact Or.inr ⟨x, hx, by rw [g x (by omega) (by omega)]; exact hk⟩
theorem fo_mono : ∀ n, n < 111 → GT T T2 → FO n q T v → FO n q T2 v := fun n hn g h => match n, hn, h with
  | 0, _, h => fm_0 g h
  | 1, _, h => fm_1 g h
  | 2, _, h => fm_2 g h
  | 3, _, h => fm_3 g h
  | 4, _, h => fm_4 g h
  | 5, _, h => fm_5 g h
  | 6, _, h => fm_6 g h
  | 7, _, h => fm_7 g h
  | 8, _, h => fm_8 g h
  | 9, _, h => fm_9 g h
  | 10, _, h => fm_10 g h
  | 11, _, h => fm_11 g h
  | 12, _, h => fm_12 g h
  | 13, _, h => fm_13 g h
  | 14, _, h => fm_14 g h
  | 15, _, h => fm_15 g h
  | 16, _, h => fm_16 g h
  | 17, _, h => fm_17 g h
  | 18, _, h => fm_18 g h
  | 19, _, h => fm_19 g h
  | 20, _, h => fm_20 g h
  | 21, _, h => fm_21 g h
  | 22, _, h => fm_22 g h
  | 23, _, h => fm_23 g h
  | 24, _, h => fm_24 g h
  | 25, _, h => fm_25 g h
  | 26, _, h => fm_26 g h
  | 27, _, h => fm_27 g h
  | 28, _, h => fm_28 g h
  | 29, _, h => fm_29 g h
  | 30, _, h => fm_30 g h
  | 31, _, h => fm_31 g h
  | 32, _, h => fm_32 g h
  | 33, _, h => fm_33 g h
  | 34, _, h => fm_34 g h
  | 35, _, h => fm_35 g h
  | 36, _, h => fm_36 g h
  | 37, _, h => fm_37 g h
  | 38, _, h => fm_38 g h
  | 39, _, h => fm_39 g h
  | 40, _, h => fm_40 g h
  | 41, _, h => fm_41 g h
  | 42, _, h => fm_42 g h
  | 43, _, h => fm_43 g h
  | 44, _, h => fm_44 g h
  | 45, _, h => fm_45 g h
  | 46, _, h => fm_46 g h
  | 47, _, h => fm_47 g h
  | 48, _, h => fm_48 g h
  | 49, _, h => fm_49 g h
  | 50, _, h => fm_50 g h
  | 51, _, h => fm_51 g h
  | 52, _, h => fm_52 g h
  | 53, _, h => fm_53 g h
  | 54, _, h => fm_54 g h
  | 55, _, h => fm_55 g h
  | 56, _, h => fm_56 g h
  | 57, _, h => fm_57 g h
  | 58, _, h => fm_58 g h
  | 59, _, h => fm_59 g h
  | 60, _, h => fm_60 g h
  | 61, _, h => fm_61 g h
  | 62, _, h => fm_62 g h
  | 63, _, h => fm_63 g h
  | 64, _, h => fm_64 g h
  | 65, _, h => fm_65 g h
  | 66, _, h => fm_66 g h
  | 67, _, h => fm_67 g h
  | 68, _, h => fm_68 g h
  | 69, _, h => fm_69 g h
  | 70, _, h => fm_70 g h
  | 71, _, h => fm_71 g h
  | 72, _, h => fm_72 g h
  | 73, _, h => fm_73 g h
  | 74, _, h => fm_74 g h
  | 75, _, h => fm_75 g h
  | 76, _, h => fm_76 g h
  | 77, _, h => fm_77 g h
  | 78, _, h => fm_78 g h
  | 79, _, h => fm_79 g h
  | 80, _, h => fm_80 g h
  | 81, _, h => fm_81 g h
  | 82, _, h => fm_82 g h
  | 83, _, h => fm_83 g h
  | 84, _, h => fm_84 g h
  | 85, _, h => fm_85 g h
  | 86, _, h => fm_86 g h
  | 87, _, h => fm_87 g h
  | 88, _, h => fm_88 g h
  | 89, _, h => fm_89 g h
  | 90, _, h => fm_90 g h
  | 91, _, h => fm_91 g h
  | 92, _, h => fm_92 g h
  | 93, _, h => fm_93 g h
  | 94, _, h => fm_94 g h
  | 95, _, h => fm_95 g h
  | 96, _, h => fm_96 g h
  | 97, _, h => fm_97 g h
  | 98, _, h => fm_98 g h
  | 99, _, h => fm_99 g h
  | 100, _, h => fm_100 g h
  | 101, _, h => fm_101 g h
  | 102, _, h => fm_102 g h
  | 103, _, h => fm_103 g h
  | 104, _, h => fm_104 g h
  | 105, _, h => fm_105 g h
  | 106, _, h => fm_106 g h
  | 107, _, h => fm_107 g h
  | 108, _, h => fm_108 g h
  | 109, _, h => fm_109 g h
  | 110, _, h => fm_110 g h
  | k + 111, hn, _ => absurd hn (by omega)
end FMS
/-! what is made is paid for -/
theorem sum_le {K : List Nat} {f g : Nat → Nat} (h : ∀ c, c ∈ K → f c ≤ g c) : (K.map f).sum ≤ (K.map g).sum := by
  induction K with
  | nil => simp
  | cons c K ih =>
    simp only [List.map_cons, List.sum_cons]
    have h1 := ih (fun c hc => h c (List.mem_cons_of_mem _ hc))
    have h2 := h c (List.mem_cons_self ..)
    omega
theorem sum_up {K : List Nat} {f g : Nat → Nat} {a n : Nat} (ha : a ∈ K) (h : ∀ c, c ∈ K → f c ≤ g c) (hn : f a + n ≤ g a) : (K.map f).sum + n ≤ (K.map g).sum := by
  induction K with
  | nil => simp at ha
  | cons c K ih =>
    simp only [List.map_cons, List.sum_cons]
    have hr : ∀ c, c ∈ K → f c ≤ g c := fun c hc => h c (List.mem_cons_of_mem _ hc)
    rcases List.mem_cons.mp ha with e | e
    · subst e
      have h1 := sum_le hr
      omega
    · have h1 := ih e hr
      have h2 := h c (List.mem_cons_self ..)
      omega
theorem phL_grow {m n : Nat} (h1 : m < n) (h2 : n = 2600 ∨ (2 * m ≤ n ∧ n < 2600)) : phL m + n ≤ phL n := by
  unfold phL
  rw [if_pos (by omega)]
  by_cases h : n < 2600
  · rw [if_pos h]; omega
  · rw [if_neg h]; omega
section MKS
variable {T : CT} {σ τ : MS} {e e1 a x y k N : Nat} {v : Int} {f : Int → Int}
/-- all but the cells of one code -/
def WTx (e e1 : Nat) (T : CT) (σ : MS) (a : Nat) : Prop := (∀ n a, n < 111 → OB T a (cls n) → FO n (T a).1 T (σ.2.1 n a)) ∧ (∀ c x : Nat, c ≠ a → OB T c 1 → σ.2.1 5 c = (x : Int) → 13 * σ.2.1 6 c ≤ ((T x).2 : Int) ∨ 2600 ≤ (T x).2) ∧ WTA T σ ∧ WTQ T σ ∧ WTM T σ ∧ ∃ b K, (∀ a, OB T a 11 → a = b) ∧ BUD e e1 b K T σ
theorem WT.wx (h : WT T σ) : WTx 0 0 T σ a := ⟨h.1, fun c x _ q r => h.2.1 c x q r, h.2.2⟩
theorem WT.put6x (h : WT T σ) (hv : FO 6 (T a).1 T v) : WTx 0 0 T (sA 6 a v σ) a := by
  obtain ⟨h1, h2, h3, h4, h5, b, K, h6, h7⟩ := h
  refine ⟨fun m b q w => ?_, fun c x hc q r => ?_, fun b q => ?_, ⟨fun b q => ?_, fun b q => ?_⟩, ⟨h5.1, ?_⟩, b, K, h6, h7.put (by omega) (by omega) (by omega)⟩
  · by_cases e : m = 6
    · by_cases f : b = a
      · rw [e, f, show (sA 6 a v σ).2.1 6 a = v from ra_eq]; exact hv
      · rw [sA_ne (by omega)]; exact h1 m b q w
    · rw [sA_k e]; exact h1 m b q w
  · rw [sA_k (by omega)] at r
    rw [sA_ne (by omega)]
    exact h2 c x q r
  · rw [sA_k (by omega)]; exact h3 b q
  · rw [sA_k (by omega)]; exact h4.1 b q
  · rw [sA_k (by omega)]; exact h4.2 b q
  · rw [sA_k (by omega)]; exact h5.2
theorem tT_gt (hx : (T x).1 = 0) : ∀ a, (T a).1 ≠ 0 → tT T x k N a = T a := fun a h => tT_ne (fun e => h (by rw [e]; exact hx))
theorem tT_ob {c ci : Nat} (hk : k < 30) (h : OB (tT T x k N) c ci) : OB T c ci := by
  have e : c ≠ x := fun e => by
    unfold OB at h; rw [e, tT_eq] at h
    have := h.1
    have h9 : 30 ≤ k := this
    omega
  unfold OB at h ⊢; rw [tT_ne e] at h; exact h
theorem ob_tT {c ci : Nat} (hx : (T x).1 = 0) (h : OB T c ci) : OB (tT T x k N) c ci := by
  unfold OB at h ⊢; rw [tT_gt hx c (by omega)]; exact h
/-- the cells of a code stand -/
theorem cells_at {c : Nat} (h1 : ∀ n a, n < 111 → OB T a (cls n) → FO n (T a).1 T (σ.2.1 n a)) (hc : OB T c 1) : ∃ y : Nat, σ.2.1 5 c = (y : Int) ∧ ((T y).1 = 1 ∨ (T y).1 = 13) ∧ 208 ≤ (T y).2 ∧ (T y).2 ≤ 2600 := by
  obtain ⟨y, e1, e2, e3, e4⟩ : FO 5 (T c).1 T (σ.2.1 5 c) := h1 5 c (by decide) hc
  exact ⟨y, e1, by omega, e2.1, e2.2⟩
/-- a new array of numbers -/
theorem WTx.newI (h : WTx e e1 T σ a) (hx : (T x).1 = 0) (hk : k = 1 ∨ (11 ≤ k ∧ k ≤ 24)) (hf : ∀ i, VOK k i (f i)) (hN : 1 ≤ N) : WTx (e + N) (e1 + 1) (tT T x k N) (rowS (1000 + x) f (gh N σ)) a := by
  obtain ⟨h1, h2, h3, h4, h5, b, K, h6, h7⟩ := h
  have g := tT_gt (k := k) (N := N) hx
  have gg : GT T (tT T x k N) := fun a p _ => g a p
  have rr : ∀ n, n < 1000 → (rowS (1000 + x) f (gh N σ)).2.1 n = σ.2.1 n := fun n hn => by rw [rowS_ne (by omega)]; rfl
  have hk30 : k < 30 := by omega
  have cl : ∀ c, OB T c 1 → cLen (tT T x k N) (rowS (1000 + x) f (gh N σ)) c = cLen T σ c := fun c hc => by
    obtain ⟨y, e1, e2, -⟩ := cells_at h1 hc
    unfold cLen
    rw [rr 5 (by omega), e1]
    show (tT T x k N y).2 = (T y).2
    rw [g y (by omega)]
  have tl : ∀ i : Int, 0 ≤ i → i < 6 → tLen (tT T x k N) (rowS (1000 + x) f (gh N σ)) i = tLen T σ i := fun i i0 i1 => by
    unfold tLen
    rw [rr 900 (by omega)]
    rcases h5.2 i i0 i1 with q | ⟨y, q1, q2⟩
    · rw [if_pos q, if_pos q]
    · rw [q1, if_neg (by omega), if_neg (by omega)]
      show (tT T x k N y).2 = (T y).2
      rw [g y (by have := q2.1; omega)]
  refine ⟨fun n c q w => ?_, fun c y hc q r => ?_, fun c q i => ?_, ⟨fun c q i i0 i1 => ?_, fun c q i i0 i1 => ?_⟩, ⟨fun c c' q q' => ?_, fun i i0 i1 => ?_⟩, b, K, fun c hc => h6 c (tT_ob hk30 hc), h7.1, fun c => ⟨fun hc => ob_tT hx ((h7.2.1 c).mp hc), fun hc => (h7.2.1 c).mpr (tT_ob hk30 hc)⟩, ?_, ?_⟩
  · have hc := tT_ob hk30 w
    rw [rr n (by omega), g c (by have := hc.1; omega)]
    exact fo_mono n q gg (h1 n c q hc)
  · have hc2 := tT_ob hk30 q
    rw [rr 5 (by omega)] at r
    rw [rr 6 (by omega)]
    obtain ⟨y2, e1, e2, -⟩ := cells_at h1 hc2
    have e3 : y2 = y := by omega
    rw [g y (by rw [← e3]; omega)]
    exact h2 c y hc hc2 r
  · by_cases e : c = x
    · rw [e, rowS_eq, tT_eq]; exact hf i
    · rw [rowS_ne (by omega)]
      have e2 : tT T x k N c = T c := tT_ne e
      have q2 : IA T c ∨ (T c).1 = 2 := by unfold IA at q ⊢; rw [e2] at q; exact q
      rw [e2]; exact h3 c q2 i
  · have e : c ≠ x := fun e => by rw [e, tT_eq] at q; have q9 : k = 4 := q; omega
    have e2 : tT T x k N c = T c := tT_ne e
    rw [e2] at q i1
    rw [rowS_ne (by omega)]
    obtain ⟨y, w1, w2⟩ := h4.1 c q i i0 i1
    exact ⟨y, w1, by rw [g y (by omega)]; exact w2⟩
  · have e : c ≠ x := fun e => by rw [e, tT_eq] at q; have q9 : k = 5 := q; omega
    have e2 : tT T x k N c = T c := tT_ne e
    rw [e2] at q i1
    rw [rowS_ne (by omega)]
    obtain ⟨y, w1, w2⟩ := h4.2 c q i i0 i1
    exact ⟨y, w1, by rw [g y (by omega)]; exact w2⟩
  · have e : ∀ c, (tT T x k N c).1 = 7 → (T c).1 = 7 := fun c q => by
      have e : c ≠ x := fun e => by rw [e, tT_eq] at q; have q9 : k = 7 := q; omega
      rw [tT_ne e] at q; exact q
    exact h5.1 c c' (e c q) (e c' q')
  · rw [rr 900 (by omega)]
    rcases h5.2 i i0 i1 with q | ⟨y, q1, q2⟩
    · exact Or.inl q
    · exact Or.inr ⟨y, q1, by unfold AR; rw [g y (by have := q2.1; omega)]; exact q2⟩
  · have e1 : (K.map (fun a => phL (cLen (tT T x k N) (rowS (1000 + x) f (gh N σ)) a))) = K.map (fun a => phL (cLen T σ a)) := List.map_congr_left (fun c hc => by rw [cl c ((h7.2.1 c).mp hc)])
    have e2 : tSum (tLen (tT T x k N) (rowS (1000 + x) f (gh N σ))) = tSum (tLen T σ) := by unfold tSum; rw [tl 0 (by omega) (by omega), tl 1 (by omega) (by omega), tl 2 (by omega) (by omega), tl 3 (by omega) (by omega), tl 4 (by omega) (by omega), tl 5 (by omega) (by omega)]
    have e3 : prS (rowS (1000 + x) f (gh N σ)) b = prS σ b := by unfold prS; rw [rr 110 (by omega)]
    rw [e1, e2, e3]
    show σ.1 0 + (N : Int) ≤ _
    have := h7.2.2.1
    omega
  · have e1 : (K.map (fun a => cLen (tT T x k N) (rowS (1000 + x) f (gh N σ)) a)) = K.map (fun a => cLen T σ a) := List.map_congr_left (fun c hc => by rw [cl c ((h7.2.1 c).mp hc)])
    have e2 : tSum (tLen (tT T x k N) (rowS (1000 + x) f (gh N σ))) = tSum (tLen T σ) := by unfold tSum; rw [tl 0 (by omega) (by omega), tl 1 (by omega) (by omega), tl 2 (by omega) (by omega), tl 3 (by omega) (by omega), tl 4 (by omega) (by omega), tl 5 (by omega) (by omega)]
    have e3 : prS (rowS (1000 + x) f (gh N σ)) b = prS σ b := by unfold prS; rw [rr 110 (by omega)]
    rw [e1, e2, e3]
    show σ.1 1 + 1 ≤ _
    have := h7.2.2.2
    omega
/-- the new cells of a code -/
theorem WTx.pay5 (h : WTx N 1 T σ a) (ha : OB T a 1) (hx : CELL T a x) (hN : (T x).2 = N) (hl : 208 ≤ N ∧ N ≤ 2600) (hy : σ.2.1 5 a = (y : Int)) (h1 : (T y).2 < N) (h2 : N = 2600 ∨ (2 * (T y).2 ≤ N ∧ N < 2600)) (hc : 13 * σ.2.1 6 a ≤ (N : Int) ∨ 2600 ≤ N) : WT T (sA 5 a x σ) := by
  obtain ⟨w1, w2, w3, w4, w5, b, K, w6, w7⟩ := h
  have cl : ∀ c, c ≠ a → cLen T (sA 5 a x σ) c = cLen T σ c := fun c hc => by unfold cLen; rw [sA_ne (by omega)]
  have ca : cLen T (sA 5 a x σ) a = N := by unfold cLen; rw [show (sA 5 a x σ).2.1 5 a = (x : Int) from ra_eq]; exact hN
  have cb : cLen T σ a = (T y).2 := by unfold cLen; rw [hy]; rfl
  have ka := (w7.2.1 a).mpr ha
  refine ⟨fun m b q w => ?_, fun c z q r => ?_, fun b q => ?_, ⟨fun b q => ?_, fun b q => ?_⟩, ⟨w5.1, ?_⟩, b, K, w6, w7.1, w7.2.1, ?_, ?_⟩
  · by_cases e : m = 5
    · by_cases f : b = a
      · rw [e, f, show (sA 5 a x σ).2.1 5 a = (x : Int) from ra_eq]; exact fo_5 ⟨x, rfl, by omega, hx.1, hx.2⟩
      · rw [sA_ne (by omega)]; exact w1 m b q w
    · rw [sA_k e]; exact w1 m b q w
  · by_cases f : c = a
    · rw [f, show (sA 5 a x σ).2.1 5 a = (x : Int) from ra_eq] at r
      have e : z = x := by omega
      rw [f, sA_k (by omega), e, hN]
      omega
    · rw [sA_ne (by omega)] at r
      rw [sA_ne (by omega)]
      exact w2 c z f q r
  · rw [sA_k (by omega)]; exact w3 b q
  · rw [sA_k (by omega)]; exact w4.1 b q
  · rw [sA_k (by omega)]; exact w4.2 b q
  · rw [sA_k (by omega)]; exact w5.2
  · have s1 : (K.map (fun a => phL (cLen T σ a))).sum + N ≤ (K.map (fun c => phL (cLen T (sA 5 a x σ) c))).sum := by
      refine sum_up ka (fun c _ => ?_) ?_
      · by_cases f : c = a
        · rw [f, ca, cb]; have := phL_grow h1 h2; omega
        · rw [cl c f]; exact Nat.le_refl _
      · rw [ca, cb]; exact phL_grow h1 h2
    have e2 : tLen T (sA 5 a x σ) = tLen T σ := tLen_put (by omega)
    have e3 : prS (sA 5 a x σ) b = prS σ b := prS_put (by omega)
    rw [e2, e3]
    show σ.1 0 ≤ _
    have := w7.2.2.1
    omega
  · have s1 : (K.map (fun a => cLen T σ a)).sum + 1 ≤ (K.map (fun c => cLen T (sA 5 a x σ) c)).sum := by
      refine sum_up ka (fun c _ => ?_) ?_
      · by_cases f : c = a
        · rw [f, ca, cb]; omega
        · rw [cl c f]; exact Nat.le_refl _
      · rw [ca, cb]; omega
    have e2 : tLen T (sA 5 a x σ) = tLen T σ := tLen_put (by omega)
    have e3 : prS (sA 5 a x σ) b = prS σ b := prS_put (by omega)
    rw [e2, e3]
    show σ.1 1 ≤ _
    have := w7.2.2.2
    omega
end MKS

