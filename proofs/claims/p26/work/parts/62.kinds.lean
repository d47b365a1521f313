/-! THE KINDS AND THEIR TEXTS -/
section
variable {l : Launch} {Γ : zk_G} {d : Nat} {Z : Nat → Nat → Int} {F : Heap → Prop}
def kT (i : Nat) : List Int := match i with
  | 0 => [112, 101, 97, 107]
  | 1 => [115, 117, 110]
  | 2 => [102, 114, 111, 109]
  | 3 => [116, 111]
  | 4 => [109, 105, 114, 114, 111, 114, 115]
  | 5 => [112, 97, 115, 115]
  | 6 => [98, 101, 116, 119, 101, 101, 110]
  | 7 => [97, 110, 100]
  | 8 => [102, 97, 114]
  | 9 => [99, 108, 111, 117, 100]
  | 10 => [111, 118, 101, 114]
  | 11 => [101, 118, 101, 114, 121]
  | 12 => [102, 111, 114]
  | 13 => [109, 101, 115, 115, 97, 103, 101]
  | 14 => [119, 111, 114, 100, 115]
  | 15 => [97, 116]
  | 16 => [100, 117, 101]
  | 17 => [104, 111, 108, 100]
  | 18 => [119, 104, 101, 110]
  | 19 => [109, 105, 110, 117, 116, 101]
  | 20 => [113, 117, 101, 117, 101]
  | 21 => [108, 101, 102, 116]
  | 22 => [98, 114, 101, 97, 107, 115]
  | 23 => [111, 112, 101, 110]
  | 24 => [99, 97, 114, 114, 105, 101, 100]
  | 25 => [110, 111, 116]
  | 26 => [111, 114]
  | 27 => [109, 105, 110]
  | 28 => [109, 97, 120]
  | 29 => [40]
  | 30 => [41]
  | 31 => [91]
  | 32 => [93]
  | 33 => [59]
  | 34 => [44]
  | 35 => [43]
  | 36 => [45]
  | 37 => [42]
  | 38 => [47]
  | 39 => [60]
  | 40 => [62]
  | 41 => [61]
  | 42 => [60, 61]
  | 43 => [62, 61]
  | _ => []
def kS (i : Nat) : Nat := if i < 44 then 60 + i else 104
theorem str_60 : zStr (zb_M Z) 60 160 4 (fun j => ([112, 101, 97, 107] : List Int).getD j 0) := ⟨2, rfl, by decide, rfl, rfl, rfl, by decide, fun j hj => by
  rcases (show j = 0 ∨ j = 1 ∨ j = 2 ∨ j = 3 by omega) with rfl | rfl | rfl | rfl <;> exact ⟨rfl, by decide⟩⟩
theorem str_61 : zStr (zb_M Z) 61 161 3 (fun j => ([115, 117, 110] : List Int).getD j 0) := ⟨2, rfl, by decide, rfl, rfl, rfl, by decide, fun j hj => by
  rcases (show j = 0 ∨ j = 1 ∨ j = 2 by omega) with rfl | rfl | rfl <;> exact ⟨rfl, by decide⟩⟩
theorem str_62 : zStr (zb_M Z) 62 162 4 (fun j => ([102, 114, 111, 109] : List Int).getD j 0) := ⟨2, rfl, by decide, rfl, rfl, rfl, by decide, fun j hj => by
  rcases (show j = 0 ∨ j = 1 ∨ j = 2 ∨ j = 3 by omega) with rfl | rfl | rfl | rfl <;> exact ⟨rfl, by decide⟩⟩
theorem str_63 : zStr (zb_M Z) 63 163 2 (fun j => ([116, 111] : List Int).getD j 0) := ⟨2, rfl, by decide, rfl, rfl, rfl, by decide, fun j hj => by
  rcases (show j = 0 ∨ j = 1 by omega) with rfl | rfl <;> exact ⟨rfl, by decide⟩⟩
theorem str_64 : zStr (zb_M Z) 64 164 7 (fun j => ([109, 105, 114, 114, 111, 114, 115] : List Int).getD j 0) := ⟨2, rfl, by decide, rfl, rfl, rfl, by decide, fun j hj => by
  rcases (show j = 0 ∨ j = 1 ∨ j = 2 ∨ j = 3 ∨ j = 4 ∨ j = 5 ∨ j = 6 by omega) with rfl | rfl | rfl | rfl | rfl | rfl | rfl <;> exact ⟨rfl, by decide⟩⟩
theorem str_65 : zStr (zb_M Z) 65 165 4 (fun j => ([112, 97, 115, 115] : List Int).getD j 0) := ⟨2, rfl, by decide, rfl, rfl, rfl, by decide, fun j hj => by
  rcases (show j = 0 ∨ j = 1 ∨ j = 2 ∨ j = 3 by omega) with rfl | rfl | rfl | rfl <;> exact ⟨rfl, by decide⟩⟩
theorem str_66 : zStr (zb_M Z) 66 166 7 (fun j => ([98, 101, 116, 119, 101, 101, 110] : List Int).getD j 0) := ⟨2, rfl, by decide, rfl, rfl, rfl, by decide, fun j hj => by
  rcases (show j = 0 ∨ j = 1 ∨ j = 2 ∨ j = 3 ∨ j = 4 ∨ j = 5 ∨ j = 6 by omega) with rfl | rfl | rfl | rfl | rfl | rfl | rfl <;> exact ⟨rfl, by decide⟩⟩
theorem str_67 : zStr (zb_M Z) 67 167 3 (fun j => ([97, 110, 100] : List Int).getD j 0) := ⟨2, rfl, by decide, rfl, rfl, rfl, by decide, fun j hj => by
  rcases (show j = 0 ∨ j = 1 ∨ j = 2 by omega) with rfl | rfl | rfl <;> exact ⟨rfl, by decide⟩⟩
theorem str_68 : zStr (zb_M Z) 68 168 3 (fun j => ([102, 97, 114] : List Int).getD j 0) := ⟨2, rfl, by decide, rfl, rfl, rfl, by decide, fun j hj => by
  rcases (show j = 0 ∨ j = 1 ∨ j = 2 by omega) with rfl | rfl | rfl <;> exact ⟨rfl, by decide⟩⟩
theorem str_69 : zStr (zb_M Z) 69 169 5 (fun j => ([99, 108, 111, 117, 100] : List Int).getD j 0) := ⟨2, rfl, by decide, rfl, rfl, rfl, by decide, fun j hj => by
  rcases (show j = 0 ∨ j = 1 ∨ j = 2 ∨ j = 3 ∨ j = 4 by omega) with rfl | rfl | rfl | rfl | rfl <;> exact ⟨rfl, by decide⟩⟩
theorem str_70 : zStr (zb_M Z) 70 170 4 (fun j => ([111, 118, 101, 114] : List Int).getD j 0) := ⟨2, rfl, by decide, rfl, rfl, rfl, by decide, fun j hj => by
  rcases (show j = 0 ∨ j = 1 ∨ j = 2 ∨ j = 3 by omega) with rfl | rfl | rfl | rfl <;> exact ⟨rfl, by decide⟩⟩
theorem str_71 : zStr (zb_M Z) 71 171 5 (fun j => ([101, 118, 101, 114, 121] : List Int).getD j 0) := ⟨2, rfl, by decide, rfl, rfl, rfl, by decide, fun j hj => by
  rcases (show j = 0 ∨ j = 1 ∨ j = 2 ∨ j = 3 ∨ j = 4 by omega) with rfl | rfl | rfl | rfl | rfl <;> exact ⟨rfl, by decide⟩⟩
theorem str_72 : zStr (zb_M Z) 72 172 3 (fun j => ([102, 111, 114] : List Int).getD j 0) := ⟨2, rfl, by decide, rfl, rfl, rfl, by decide, fun j hj => by
  rcases (show j = 0 ∨ j = 1 ∨ j = 2 by omega) with rfl | rfl | rfl <;> exact ⟨rfl, by decide⟩⟩
theorem str_73 : zStr (zb_M Z) 73 173 7 (fun j => ([109, 101, 115, 115, 97, 103, 101] : List Int).getD j 0) := ⟨2, rfl, by decide, rfl, rfl, rfl, by decide, fun j hj => by
  rcases (show j = 0 ∨ j = 1 ∨ j = 2 ∨ j = 3 ∨ j = 4 ∨ j = 5 ∨ j = 6 by omega) with rfl | rfl | rfl | rfl | rfl | rfl | rfl <;> exact ⟨rfl, by decide⟩⟩
theorem str_74 : zStr (zb_M Z) 74 174 5 (fun j => ([119, 111, 114, 100, 115] : List Int).getD j 0) := ⟨2, rfl, by decide, rfl, rfl, rfl, by decide, fun j hj => by
  rcases (show j = 0 ∨ j = 1 ∨ j = 2 ∨ j = 3 ∨ j = 4 by omega) with rfl | rfl | rfl | rfl | rfl <;> exact ⟨rfl, by decide⟩⟩
theorem str_75 : zStr (zb_M Z) 75 175 2 (fun j => ([97, 116] : List Int).getD j 0) := ⟨2, rfl, by decide, rfl, rfl, rfl, by decide, fun j hj => by
  rcases (show j = 0 ∨ j = 1 by omega) with rfl | rfl <;> exact ⟨rfl, by decide⟩⟩
theorem str_76 : zStr (zb_M Z) 76 176 3 (fun j => ([100, 117, 101] : List Int).getD j 0) := ⟨2, rfl, by decide, rfl, rfl, rfl, by decide, fun j hj => by
  rcases (show j = 0 ∨ j = 1 ∨ j = 2 by omega) with rfl | rfl | rfl <;> exact ⟨rfl, by decide⟩⟩
theorem str_77 : zStr (zb_M Z) 77 177 4 (fun j => ([104, 111, 108, 100] : List Int).getD j 0) := ⟨2, rfl, by decide, rfl, rfl, rfl, by decide, fun j hj => by
  rcases (show j = 0 ∨ j = 1 ∨ j = 2 ∨ j = 3 by omega) with rfl | rfl | rfl | rfl <;> exact ⟨rfl, by decide⟩⟩
theorem str_78 : zStr (zb_M Z) 78 178 4 (fun j => ([119, 104, 101, 110] : List Int).getD j 0) := ⟨2, rfl, by decide, rfl, rfl, rfl, by decide, fun j hj => by
  rcases (show j = 0 ∨ j = 1 ∨ j = 2 ∨ j = 3 by omega) with rfl | rfl | rfl | rfl <;> exact ⟨rfl, by decide⟩⟩
theorem str_79 : zStr (zb_M Z) 79 179 6 (fun j => ([109, 105, 110, 117, 116, 101] : List Int).getD j 0) := ⟨2, rfl, by decide, rfl, rfl, rfl, by decide, fun j hj => by
  rcases (show j = 0 ∨ j = 1 ∨ j = 2 ∨ j = 3 ∨ j = 4 ∨ j = 5 by omega) with rfl | rfl | rfl | rfl | rfl | rfl <;> exact ⟨rfl, by decide⟩⟩
theorem str_80 : zStr (zb_M Z) 80 180 5 (fun j => ([113, 117, 101, 117, 101] : List Int).getD j 0) := ⟨2, rfl, by decide, rfl, rfl, rfl, by decide, fun j hj => by
  rcases (show j = 0 ∨ j = 1 ∨ j = 2 ∨ j = 3 ∨ j = 4 by omega) with rfl | rfl | rfl | rfl | rfl <;> exact ⟨rfl, by decide⟩⟩
theorem str_81 : zStr (zb_M Z) 81 181 4 (fun j => ([108, 101, 102, 116] : List Int).getD j 0) := ⟨2, rfl, by decide, rfl, rfl, rfl, by decide, fun j hj => by
  rcases (show j = 0 ∨ j = 1 ∨ j = 2 ∨ j = 3 by omega) with rfl | rfl | rfl | rfl <;> exact ⟨rfl, by decide⟩⟩
theorem str_82 : zStr (zb_M Z) 82 182 6 (fun j => ([98, 114, 101, 97, 107, 115] : List Int).getD j 0) := ⟨2, rfl, by decide, rfl, rfl, rfl, by decide, fun j hj => by
  rcases (show j = 0 ∨ j = 1 ∨ j = 2 ∨ j = 3 ∨ j = 4 ∨ j = 5 by omega) with rfl | rfl | rfl | rfl | rfl | rfl <;> exact ⟨rfl, by decide⟩⟩
theorem str_83 : zStr (zb_M Z) 83 183 4 (fun j => ([111, 112, 101, 110] : List Int).getD j 0) := ⟨2, rfl, by decide, rfl, rfl, rfl, by decide, fun j hj => by
  rcases (show j = 0 ∨ j = 1 ∨ j = 2 ∨ j = 3 by omega) with rfl | rfl | rfl | rfl <;> exact ⟨rfl, by decide⟩⟩
theorem str_84 : zStr (zb_M Z) 84 184 7 (fun j => ([99, 97, 114, 114, 105, 101, 100] : List Int).getD j 0) := ⟨2, rfl, by decide, rfl, rfl, rfl, by decide, fun j hj => by
  rcases (show j = 0 ∨ j = 1 ∨ j = 2 ∨ j = 3 ∨ j = 4 ∨ j = 5 ∨ j = 6 by omega) with rfl | rfl | rfl | rfl | rfl | rfl | rfl <;> exact ⟨rfl, by decide⟩⟩
theorem str_85 : zStr (zb_M Z) 85 185 3 (fun j => ([110, 111, 116] : List Int).getD j 0) := ⟨2, rfl, by decide, rfl, rfl, rfl, by decide, fun j hj => by
  rcases (show j = 0 ∨ j = 1 ∨ j = 2 by omega) with rfl | rfl | rfl <;> exact ⟨rfl, by decide⟩⟩
theorem str_86 : zStr (zb_M Z) 86 186 2 (fun j => ([111, 114] : List Int).getD j 0) := ⟨2, rfl, by decide, rfl, rfl, rfl, by decide, fun j hj => by
  rcases (show j = 0 ∨ j = 1 by omega) with rfl | rfl <;> exact ⟨rfl, by decide⟩⟩
theorem str_87 : zStr (zb_M Z) 87 187 3 (fun j => ([109, 105, 110] : List Int).getD j 0) := ⟨2, rfl, by decide, rfl, rfl, rfl, by decide, fun j hj => by
  rcases (show j = 0 ∨ j = 1 ∨ j = 2 by omega) with rfl | rfl | rfl <;> exact ⟨rfl, by decide⟩⟩
theorem str_88 : zStr (zb_M Z) 88 188 3 (fun j => ([109, 97, 120] : List Int).getD j 0) := ⟨2, rfl, by decide, rfl, rfl, rfl, by decide, fun j hj => by
  rcases (show j = 0 ∨ j = 1 ∨ j = 2 by omega) with rfl | rfl | rfl <;> exact ⟨rfl, by decide⟩⟩
theorem str_89 : zStr (zb_M Z) 89 189 1 (fun j => ([40] : List Int).getD j 0) := ⟨2, rfl, by decide, rfl, rfl, rfl, by decide, fun j hj => by
  rcases (show j = 0 by omega) with rfl
  exact ⟨rfl, by decide⟩⟩
theorem str_90 : zStr (zb_M Z) 90 190 1 (fun j => ([41] : List Int).getD j 0) := ⟨2, rfl, by decide, rfl, rfl, rfl, by decide, fun j hj => by
  rcases (show j = 0 by omega) with rfl
  exact ⟨rfl, by decide⟩⟩
theorem str_91 : zStr (zb_M Z) 91 191 1 (fun j => ([91] : List Int).getD j 0) := ⟨2, rfl, by decide, rfl, rfl, rfl, by decide, fun j hj => by
  rcases (show j = 0 by omega) with rfl
  exact ⟨rfl, by decide⟩⟩
theorem str_92 : zStr (zb_M Z) 92 192 1 (fun j => ([93] : List Int).getD j 0) := ⟨2, rfl, by decide, rfl, rfl, rfl, by decide, fun j hj => by
  rcases (show j = 0 by omega) with rfl
  exact ⟨rfl, by decide⟩⟩
theorem str_93 : zStr (zb_M Z) 93 193 1 (fun j => ([59] : List Int).getD j 0) := ⟨2, rfl, by decide, rfl, rfl, rfl, by decide, fun j hj => by
  rcases (show j = 0 by omega) with rfl
  exact ⟨rfl, by decide⟩⟩
theorem str_94 : zStr (zb_M Z) 94 194 1 (fun j => ([44] : List Int).getD j 0) := ⟨2, rfl, by decide, rfl, rfl, rfl, by decide, fun j hj => by
  rcases (show j = 0 by omega) with rfl
  exact ⟨rfl, by decide⟩⟩
theorem str_95 : zStr (zb_M Z) 95 195 1 (fun j => ([43] : List Int).getD j 0) := ⟨2, rfl, by decide, rfl, rfl, rfl, by decide, fun j hj => by
  rcases (show j = 0 by omega) with rfl
  exact ⟨rfl, by decide⟩⟩
theorem str_96 : zStr (zb_M Z) 96 196 1 (fun j => ([45] : List Int).getD j 0) := ⟨2, rfl, by decide, rfl, rfl, rfl, by decide, fun j hj => by
  rcases (show j = 0 by omega) with rfl
  exact ⟨rfl, by decide⟩⟩
theorem str_97 : zStr (zb_M Z) 97 197 1 (fun j => ([42] : List Int).getD j 0) := ⟨2, rfl, by decide, rfl, rfl, rfl, by decide, fun j hj => by
  rcases (show j = 0 by omega) with rfl
  exact ⟨rfl, by decide⟩⟩
theorem str_98 : zStr (zb_M Z) 98 198 1 (fun j => ([47] : List Int).getD j 0) := ⟨2, rfl, by decide, rfl, rfl, rfl, by decide, fun j hj => by
  rcases (show j = 0 by omega) with rfl
  exact ⟨rfl, by decide⟩⟩
theorem str_99 : zStr (zb_M Z) 99 199 1 (fun j => ([60] : List Int).getD j 0) := ⟨2, rfl, by decide, rfl, rfl, rfl, by decide, fun j hj => by
  rcases (show j = 0 by omega) with rfl
  exact ⟨rfl, by decide⟩⟩
theorem str_100 : zStr (zb_M Z) 100 200 1 (fun j => ([62] : List Int).getD j 0) := ⟨2, rfl, by decide, rfl, rfl, rfl, by decide, fun j hj => by
  rcases (show j = 0 by omega) with rfl
  exact ⟨rfl, by decide⟩⟩
theorem str_101 : zStr (zb_M Z) 101 201 1 (fun j => ([61] : List Int).getD j 0) := ⟨2, rfl, by decide, rfl, rfl, rfl, by decide, fun j hj => by
  rcases (show j = 0 by omega) with rfl
  exact ⟨rfl, by decide⟩⟩
theorem str_102 : zStr (zb_M Z) 102 202 2 (fun j => ([60, 61] : List Int).getD j 0) := ⟨2, rfl, by decide, rfl, rfl, rfl, by decide, fun j hj => by
  rcases (show j = 0 ∨ j = 1 by omega) with rfl | rfl <;> exact ⟨rfl, by decide⟩⟩
theorem str_103 : zStr (zb_M Z) 103 203 2 (fun j => ([62, 61] : List Int).getD j 0) := ⟨2, rfl, by decide, rfl, rfl, rfl, by decide, fun j hj => by
  rcases (show j = 0 ∨ j = 1 by omega) with rfl | rfl <;> exact ⟨rfl, by decide⟩⟩
theorem str_104 : zStr (zb_M Z) 104 204 0 (fun j => ([] : List Int).getD j 0) := ⟨2, rfl, by decide, rfl, rfl, rfl, by decide, fun j hj => by
  exact absurd hj (Nat.not_lt_zero _)⟩
theorem str_105 : zStr (zb_M Z) 105 205 6 (fun j => ([112, 101, 97, 107, 32, 112] : List Int).getD j 0) := ⟨2, rfl, by decide, rfl, rfl, rfl, by decide, fun j hj => by
  rcases (show j = 0 ∨ j = 1 ∨ j = 2 ∨ j = 3 ∨ j = 4 ∨ j = 5 by omega) with rfl | rfl | rfl | rfl | rfl | rfl <;> exact ⟨rfl, by decide⟩⟩
theorem str_106 : zStr (zb_M Z) 106 206 10 (fun j => ([32, 115, 117, 110, 32, 102, 114, 111, 109, 32] : List Int).getD j 0) := ⟨2, rfl, by decide, rfl, rfl, rfl, by decide, fun j hj => by
  rcases (show j = 0 ∨ j = 1 ∨ j = 2 ∨ j = 3 ∨ j = 4 ∨ j = 5 ∨ j = 6 ∨ j = 7 ∨ j = 8 ∨ j = 9 by omega) with rfl | rfl | rfl | rfl | rfl | rfl | rfl | rfl | rfl | rfl <;> exact ⟨rfl, by decide⟩⟩
theorem str_107 : zStr (zb_M Z) 107 207 4 (fun j => ([32, 116, 111, 32] : List Int).getD j 0) := ⟨2, rfl, by decide, rfl, rfl, rfl, by decide, fun j hj => by
  rcases (show j = 0 ∨ j = 1 ∨ j = 2 ∨ j = 3 by omega) with rfl | rfl | rfl | rfl <;> exact ⟨rfl, by decide⟩⟩
theorem str_108 : zStr (zb_M Z) 108 208 9 (fun j => ([32, 109, 105, 114, 114, 111, 114, 115, 32] : List Int).getD j 0) := ⟨2, rfl, by decide, rfl, rfl, rfl, by decide, fun j hj => by
  rcases (show j = 0 ∨ j = 1 ∨ j = 2 ∨ j = 3 ∨ j = 4 ∨ j = 5 ∨ j = 6 ∨ j = 7 ∨ j = 8 by omega) with rfl | rfl | rfl | rfl | rfl | rfl | rfl | rfl | rfl <;> exact ⟨rfl, by decide⟩⟩
theorem str_109 : zStr (zb_M Z) 109 209 6 (fun j => ([112, 97, 115, 115, 32, 119] : List Int).getD j 0) := ⟨2, rfl, by decide, rfl, rfl, rfl, by decide, fun j hj => by
  rcases (show j = 0 ∨ j = 1 ∨ j = 2 ∨ j = 3 ∨ j = 4 ∨ j = 5 by omega) with rfl | rfl | rfl | rfl | rfl | rfl <;> exact ⟨rfl, by decide⟩⟩
theorem str_110 : zStr (zb_M Z) 110 210 10 (fun j => ([32, 98, 101, 116, 119, 101, 101, 110, 32, 112] : List Int).getD j 0) := ⟨2, rfl, by decide, rfl, rfl, rfl, by decide, fun j hj => by
  rcases (show j = 0 ∨ j = 1 ∨ j = 2 ∨ j = 3 ∨ j = 4 ∨ j = 5 ∨ j = 6 ∨ j = 7 ∨ j = 8 ∨ j = 9 by omega) with rfl | rfl | rfl | rfl | rfl | rfl | rfl | rfl | rfl | rfl <;> exact ⟨rfl, by decide⟩⟩
theorem str_111 : zStr (zb_M Z) 111 211 6 (fun j => ([32, 97, 110, 100, 32, 112] : List Int).getD j 0) := ⟨2, rfl, by decide, rfl, rfl, rfl, by decide, fun j hj => by
  rcases (show j = 0 ∨ j = 1 ∨ j = 2 ∨ j = 3 ∨ j = 4 ∨ j = 5 by omega) with rfl | rfl | rfl | rfl | rfl | rfl <;> exact ⟨rfl, by decide⟩⟩
theorem str_112 : zStr (zb_M Z) 112 212 5 (fun j => ([32, 102, 97, 114, 32] : List Int).getD j 0) := ⟨2, rfl, by decide, rfl, rfl, rfl, by decide, fun j hj => by
  rcases (show j = 0 ∨ j = 1 ∨ j = 2 ∨ j = 3 ∨ j = 4 by omega) with rfl | rfl | rfl | rfl | rfl <;> exact ⟨rfl, by decide⟩⟩
theorem str_113 : zStr (zb_M Z) 113 213 3 (fun j => ([32, 59, 10] : List Int).getD j 0) := ⟨2, rfl, by decide, rfl, rfl, rfl, by decide, fun j hj => by
  rcases (show j = 0 ∨ j = 1 ∨ j = 2 by omega) with rfl | rfl | rfl <;> exact ⟨rfl, by decide⟩⟩
theorem str_114 : zStr (zb_M Z) 114 214 12 (fun j => ([99, 108, 111, 117, 100, 32, 111, 118, 101, 114, 32, 119] : List Int).getD j 0) := ⟨2, rfl, by decide, rfl, rfl, rfl, by decide, fun j hj => by
  rcases (show j = 0 ∨ j = 1 ∨ j = 2 ∨ j = 3 ∨ j = 4 ∨ j = 5 ∨ j = 6 ∨ j = 7 ∨ j = 8 ∨ j = 9 ∨ j = 10 ∨ j = 11 by omega) with rfl | rfl | rfl | rfl | rfl | rfl | rfl | rfl | rfl | rfl | rfl | rfl <;> exact ⟨rfl, by decide⟩⟩
theorem str_115 : zStr (zb_M Z) 115 215 7 (fun j => ([32, 101, 118, 101, 114, 121, 32] : List Int).getD j 0) := ⟨2, rfl, by decide, rfl, rfl, rfl, by decide, fun j hj => by
  rcases (show j = 0 ∨ j = 1 ∨ j = 2 ∨ j = 3 ∨ j = 4 ∨ j = 5 ∨ j = 6 by omega) with rfl | rfl | rfl | rfl | rfl | rfl | rfl <;> exact ⟨rfl, by decide⟩⟩
theorem str_116 : zStr (zb_M Z) 116 216 5 (fun j => ([32, 102, 111, 114, 32] : List Int).getD j 0) := ⟨2, rfl, by decide, rfl, rfl, rfl, by decide, fun j hj => by
  rcases (show j = 0 ∨ j = 1 ∨ j = 2 ∨ j = 3 ∨ j = 4 by omega) with rfl | rfl | rfl | rfl | rfl <;> exact ⟨rfl, by decide⟩⟩
theorem str_117 : zStr (zb_M Z) 117 217 6 (fun j => ([32, 102, 114, 111, 109, 32] : List Int).getD j 0) := ⟨2, rfl, by decide, rfl, rfl, rfl, by decide, fun j hj => by
  rcases (show j = 0 ∨ j = 1 ∨ j = 2 ∨ j = 3 ∨ j = 4 ∨ j = 5 by omega) with rfl | rfl | rfl | rfl | rfl | rfl <;> exact ⟨rfl, by decide⟩⟩
theorem str_118 : zStr (zb_M Z) 118 218 9 (fun j => ([109, 101, 115, 115, 97, 103, 101, 32, 109] : List Int).getD j 0) := ⟨2, rfl, by decide, rfl, rfl, rfl, by decide, fun j hj => by
  rcases (show j = 0 ∨ j = 1 ∨ j = 2 ∨ j = 3 ∨ j = 4 ∨ j = 5 ∨ j = 6 ∨ j = 7 ∨ j = 8 by omega) with rfl | rfl | rfl | rfl | rfl | rfl | rfl | rfl | rfl <;> exact ⟨rfl, by decide⟩⟩
theorem str_119 : zStr (zb_M Z) 119 219 7 (fun j => ([32, 119, 111, 114, 100, 115, 32] : List Int).getD j 0) := ⟨2, rfl, by decide, rfl, rfl, rfl, by decide, fun j hj => by
  rcases (show j = 0 ∨ j = 1 ∨ j = 2 ∨ j = 3 ∨ j = 4 ∨ j = 5 ∨ j = 6 by omega) with rfl | rfl | rfl | rfl | rfl | rfl | rfl <;> exact ⟨rfl, by decide⟩⟩
theorem str_120 : zStr (zb_M Z) 120 220 5 (fun j => ([32, 97, 116, 32, 112] : List Int).getD j 0) := ⟨2, rfl, by decide, rfl, rfl, rfl, by decide, fun j hj => by
  rcases (show j = 0 ∨ j = 1 ∨ j = 2 ∨ j = 3 ∨ j = 4 by omega) with rfl | rfl | rfl | rfl | rfl <;> exact ⟨rfl, by decide⟩⟩
theorem str_121 : zStr (zb_M Z) 121 221 5 (fun j => ([32, 116, 111, 32, 112] : List Int).getD j 0) := ⟨2, rfl, by decide, rfl, rfl, rfl, by decide, fun j hj => by
  rcases (show j = 0 ∨ j = 1 ∨ j = 2 ∨ j = 3 ∨ j = 4 by omega) with rfl | rfl | rfl | rfl | rfl <;> exact ⟨rfl, by decide⟩⟩
theorem str_122 : zStr (zb_M Z) 122 222 5 (fun j => ([32, 100, 117, 101, 32] : List Int).getD j 0) := ⟨2, rfl, by decide, rfl, rfl, rfl, by decide, fun j hj => by
  rcases (show j = 0 ∨ j = 1 ∨ j = 2 ∨ j = 3 ∨ j = 4 by omega) with rfl | rfl | rfl | rfl | rfl <;> exact ⟨rfl, by decide⟩⟩
theorem str_123 : zStr (zb_M Z) 123 223 6 (fun j => ([104, 111, 108, 100, 32, 109] : List Int).getD j 0) := ⟨2, rfl, by decide, rfl, rfl, rfl, by decide, fun j hj => by
  rcases (show j = 0 ∨ j = 1 ∨ j = 2 ∨ j = 3 ∨ j = 4 ∨ j = 5 by omega) with rfl | rfl | rfl | rfl | rfl | rfl <;> exact ⟨rfl, by decide⟩⟩
theorem str_124 : zStr (zb_M Z) 124 224 6 (fun j => ([32, 119, 104, 101, 110, 32] : List Int).getD j 0) := ⟨2, rfl, by decide, rfl, rfl, rfl, by decide, fun j hj => by
  rcases (show j = 0 ∨ j = 1 ∨ j = 2 ∨ j = 3 ∨ j = 4 ∨ j = 5 by omega) with rfl | rfl | rfl | rfl | rfl | rfl <;> exact ⟨rfl, by decide⟩⟩
theorem str_125 : zStr (zb_M Z) 125 225 7 (fun j => ([109, 105, 110, 117, 116, 101, 60] : List Int).getD j 0) := ⟨2, rfl, by decide, rfl, rfl, rfl, by decide, fun j hj => by
  rcases (show j = 0 ∨ j = 1 ∨ j = 2 ∨ j = 3 ∨ j = 4 ∨ j = 5 ∨ j = 6 by omega) with rfl | rfl | rfl | rfl | rfl | rfl | rfl <;> exact ⟨rfl, by decide⟩⟩
theorem str_126 : zStr (zb_M Z) 126 226 7 (fun j => ([113, 117, 101, 117, 101, 32, 112] : List Int).getD j 0) := ⟨2, rfl, by decide, rfl, rfl, rfl, by decide, fun j hj => by
  rcases (show j = 0 ∨ j = 1 ∨ j = 2 ∨ j = 3 ∨ j = 4 ∨ j = 5 ∨ j = 6 by omega) with rfl | rfl | rfl | rfl | rfl | rfl | rfl <;> exact ⟨rfl, by decide⟩⟩
theorem str_127 : zStr (zb_M Z) 127 227 2 (fun j => ([62, 49] : List Int).getD j 0) := ⟨2, rfl, by decide, rfl, rfl, rfl, by decide, fun j hj => by
  rcases (show j = 0 ∨ j = 1 by omega) with rfl | rfl <;> exact ⟨rfl, by decide⟩⟩
theorem str_128 : zStr (zb_M Z) 128 228 6 (fun j => ([111, 112, 101, 110, 32, 119] : List Int).getD j 0) := ⟨2, rfl, by decide, rfl, rfl, rfl, by decide, fun j hj => by
  rcases (show j = 0 ∨ j = 1 ∨ j = 2 ∨ j = 3 ∨ j = 4 ∨ j = 5 by omega) with rfl | rfl | rfl | rfl | rfl | rfl <;> exact ⟨rfl, by decide⟩⟩
theorem str_129 : zStr (zb_M Z) 129 229 10 (fun j => ([110, 111, 116, 32, 111, 112, 101, 110, 32, 119] : List Int).getD j 0) := ⟨2, rfl, by decide, rfl, rfl, rfl, by decide, fun j hj => by
  rcases (show j = 0 ∨ j = 1 ∨ j = 2 ∨ j = 3 ∨ j = 4 ∨ j = 5 ∨ j = 6 ∨ j = 7 ∨ j = 8 ∨ j = 9 by omega) with rfl | rfl | rfl | rfl | rfl | rfl | rfl | rfl | rfl | rfl <;> exact ⟨rfl, by decide⟩⟩
theorem str_130 : zStr (zb_M Z) 130 230 13 (fun j => ([32, 111, 114, 32, 99, 97, 114, 114, 105, 101, 100, 32, 109] : List Int).getD j 0) := ⟨2, rfl, by decide, rfl, rfl, rfl, by decide, fun j hj => by
  rcases (show j = 0 ∨ j = 1 ∨ j = 2 ∨ j = 3 ∨ j = 4 ∨ j = 5 ∨ j = 6 ∨ j = 7 ∨ j = 8 ∨ j = 9 ∨ j = 10 ∨ j = 11 ∨ j = 12 by omega) with rfl | rfl | rfl | rfl | rfl | rfl | rfl | rfl | rfl | rfl | rfl | rfl | rfl <;> exact ⟨rfl, by decide⟩⟩
theorem str_131 : zStr (zb_M Z) 131 231 6 (fun j => ([108, 101, 102, 116, 32, 109] : List Int).getD j 0) := ⟨2, rfl, by decide, rfl, rfl, rfl, by decide, fun j hj => by
  rcases (show j = 0 ∨ j = 1 ∨ j = 2 ∨ j = 3 ∨ j = 4 ∨ j = 5 by omega) with rfl | rfl | rfl | rfl | rfl | rfl <;> exact ⟨rfl, by decide⟩⟩
theorem str_132 : zStr (zb_M Z) 132 232 6 (fun j => ([42, 50, 32, 62, 61, 32] : List Int).getD j 0) := ⟨2, rfl, by decide, rfl, rfl, rfl, by decide, fun j hj => by
  rcases (show j = 0 ∨ j = 1 ∨ j = 2 ∨ j = 3 ∨ j = 4 ∨ j = 5 by omega) with rfl | rfl | rfl | rfl | rfl | rfl <;> exact ⟨rfl, by decide⟩⟩
theorem str_133 : zStr (zb_M Z) 133 233 9 (fun j => ([91, 98, 114, 101, 97, 107, 115, 32, 109] : List Int).getD j 0) := ⟨2, rfl, by decide, rfl, rfl, rfl, by decide, fun j hj => by
  rcases (show j = 0 ∨ j = 1 ∨ j = 2 ∨ j = 3 ∨ j = 4 ∨ j = 5 ∨ j = 6 ∨ j = 7 ∨ j = 8 by omega) with rfl | rfl | rfl | rfl | rfl | rfl | rfl | rfl | rfl <;> exact ⟨rfl, by decide⟩⟩
theorem str_134 : zStr (zb_M Z) 134 234 15 (fun j => ([47, 51, 48, 32, 97, 110, 100, 32, 109, 105, 110, 117, 116, 101, 62] : List Int).getD j 0) := ⟨2, rfl, by decide, rfl, rfl, rfl, by decide, fun j hj => by
  rcases (show j = 0 ∨ j = 1 ∨ j = 2 ∨ j = 3 ∨ j = 4 ∨ j = 5 ∨ j = 6 ∨ j = 7 ∨ j = 8 ∨ j = 9 ∨ j = 10 ∨ j = 11 ∨ j = 12 ∨ j = 13 ∨ j = 14 by omega) with rfl | rfl | rfl | rfl | rfl | rfl | rfl | rfl | rfl | rfl | rfl | rfl | rfl | rfl | rfl <;> exact ⟨rfl, by decide⟩⟩
theorem str_135 : zStr (zb_M Z) 135 235 23 (fun j => ([47, 50, 93, 111, 114, 32, 109, 105, 110, 117, 116, 101, 47, 50, 42, 50, 61, 109, 105, 110, 117, 116, 101] : List Int).getD j 0) := ⟨2, rfl, by decide, rfl, rfl, rfl, by decide, fun j hj => by
  rcases (show j = 0 ∨ j = 1 ∨ j = 2 ∨ j = 3 ∨ j = 4 ∨ j = 5 ∨ j = 6 ∨ j = 7 ∨ j = 8 ∨ j = 9 ∨ j = 10 ∨ j = 11 ∨ j = 12 ∨ j = 13 ∨ j = 14 ∨ j = 15 ∨ j = 16 ∨ j = 17 ∨ j = 18 ∨ j = 19 ∨ j = 20 ∨ j = 21 ∨ j = 22 by omega) with rfl | rfl | rfl | rfl | rfl | rfl | rfl | rfl | rfl | rfl | rfl | rfl | rfl | rfl | rfl | rfl | rfl | rfl | rfl | rfl | rfl | rfl | rfl <;> exact ⟨rfl, by decide⟩⟩
theorem str_136 : zStr (zb_M Z) 136 236 9 (fun j => ([99, 97, 114, 114, 105, 101, 100, 32, 109] : List Int).getD j 0) := ⟨2, rfl, by decide, rfl, rfl, rfl, by decide, fun j hj => by
  rcases (show j = 0 ∨ j = 1 ∨ j = 2 ∨ j = 3 ∨ j = 4 ∨ j = 5 ∨ j = 6 ∨ j = 7 ∨ j = 8 by omega) with rfl | rfl | rfl | rfl | rfl | rfl | rfl | rfl | rfl <;> exact ⟨rfl, by decide⟩⟩
theorem str_137 : zStr (zb_M Z) 137 237 5 (fun j => ([47, 50, 42, 50, 61] : List Int).getD j 0) := ⟨2, rfl, by decide, rfl, rfl, rfl, by decide, fun j hj => by
  rcases (show j = 0 ∨ j = 1 ∨ j = 2 ∨ j = 3 ∨ j = 4 by omega) with rfl | rfl | rfl | rfl | rfl <;> exact ⟨rfl, by decide⟩⟩
theorem str_138 : zStr (zb_M Z) 138 238 22 (fun j => ([116, 104, 101, 114, 101, 32, 105, 115, 32, 110, 111, 32, 115, 117, 99, 104, 32, 99, 111, 117, 110, 116] : List Int).getD j 0) := ⟨2, rfl, by decide, rfl, rfl, rfl, by decide, fun j hj => by
  rcases (show j = 0 ∨ j = 1 ∨ j = 2 ∨ j = 3 ∨ j = 4 ∨ j = 5 ∨ j = 6 ∨ j = 7 ∨ j = 8 ∨ j = 9 ∨ j = 10 ∨ j = 11 ∨ j = 12 ∨ j = 13 ∨ j = 14 ∨ j = 15 ∨ j = 16 ∨ j = 17 ∨ j = 18 ∨ j = 19 ∨ j = 20 ∨ j = 21 by omega) with rfl | rfl | rfl | rfl | rfl | rfl | rfl | rfl | rfl | rfl | rfl | rfl | rfl | rfl | rfl | rfl | rfl | rfl | rfl | rfl | rfl | rfl <;> exact ⟨rfl, by decide⟩⟩
theorem str_139 : zStr (zb_M Z) 139 239 46 (fun j => ([116, 104, 101, 114, 101, 32, 105, 115, 32, 110, 111, 32, 115, 117, 99, 104, 32, 112, 101, 97, 107, 44, 32, 111, 114, 32, 110, 111, 32, 115, 117, 99, 104, 32, 110, 117, 109, 98, 101, 114, 32, 111, 102, 32, 105, 116] : List Int).getD j 0) := ⟨2, rfl, by decide, rfl, rfl, rfl, by decide, fun j hj => by
  rcases (show j = 0 ∨ j = 1 ∨ j = 2 ∨ j = 3 ∨ j = 4 ∨ j = 5 ∨ j = 6 ∨ j = 7 ∨ j = 8 ∨ j = 9 ∨ j = 10 ∨ j = 11 ∨ j = 12 ∨ j = 13 ∨ j = 14 ∨ j = 15 ∨ j = 16 ∨ j = 17 ∨ j = 18 ∨ j = 19 ∨ j = 20 ∨ j = 21 ∨ j = 22 ∨ j = 23 ∨ j = 24 ∨ j = 25 ∨ j = 26 ∨ j = 27 ∨ j = 28 ∨ j = 29 ∨ j = 30 ∨ j = 31 ∨ j = 32 ∨ j = 33 ∨ j = 34 ∨ j = 35 ∨ j = 36 ∨ j = 37 ∨ j = 38 ∨ j = 39 ∨ j = 40 ∨ j = 41 ∨ j = 42 ∨ j = 43 ∨ j = 44 ∨ j = 45 by omega) with rfl | rfl | rfl | rfl | rfl | rfl | rfl | rfl | rfl | rfl | rfl | rfl | rfl | rfl | rfl | rfl | rfl | rfl | rfl | rfl | rfl | rfl | rfl | rfl | rfl | rfl | rfl | rfl | rfl | rfl | rfl | rfl | rfl | rfl | rfl | rfl | rfl | rfl | rfl | rfl | rfl | rfl | rfl | rfl | rfl | rfl <;> exact ⟨rfl, by decide⟩⟩
theorem str_140 : zStr (zb_M Z) 140 240 46 (fun j => ([116, 104, 101, 114, 101, 32, 105, 115, 32, 110, 111, 32, 115, 117, 99, 104, 32, 112, 97, 115, 115, 44, 32, 111, 114, 32, 110, 111, 32, 115, 117, 99, 104, 32, 110, 117, 109, 98, 101, 114, 32, 111, 102, 32, 105, 116] : List Int).getD j 0) := ⟨2, rfl, by decide, rfl, rfl, rfl, by decide, fun j hj => by
  rcases (show j = 0 ∨ j = 1 ∨ j = 2 ∨ j = 3 ∨ j = 4 ∨ j = 5 ∨ j = 6 ∨ j = 7 ∨ j = 8 ∨ j = 9 ∨ j = 10 ∨ j = 11 ∨ j = 12 ∨ j = 13 ∨ j = 14 ∨ j = 15 ∨ j = 16 ∨ j = 17 ∨ j = 18 ∨ j = 19 ∨ j = 20 ∨ j = 21 ∨ j = 22 ∨ j = 23 ∨ j = 24 ∨ j = 25 ∨ j = 26 ∨ j = 27 ∨ j = 28 ∨ j = 29 ∨ j = 30 ∨ j = 31 ∨ j = 32 ∨ j = 33 ∨ j = 34 ∨ j = 35 ∨ j = 36 ∨ j = 37 ∨ j = 38 ∨ j = 39 ∨ j = 40 ∨ j = 41 ∨ j = 42 ∨ j = 43 ∨ j = 44 ∨ j = 45 by omega) with rfl | rfl | rfl | rfl | rfl | rfl | rfl | rfl | rfl | rfl | rfl | rfl | rfl | rfl | rfl | rfl | rfl | rfl | rfl | rfl | rfl | rfl | rfl | rfl | rfl | rfl | rfl | rfl | rfl | rfl | rfl | rfl | rfl | rfl | rfl | rfl | rfl | rfl | rfl | rfl | rfl | rfl | rfl | rfl | rfl | rfl <;> exact ⟨rfl, by decide⟩⟩
theorem str_141 : zStr (zb_M Z) 141 241 49 (fun j => ([116, 104, 101, 114, 101, 32, 105, 115, 32, 110, 111, 32, 115, 117, 99, 104, 32, 109, 101, 115, 115, 97, 103, 101, 44, 32, 111, 114, 32, 110, 111, 32, 115, 117, 99, 104, 32, 110, 117, 109, 98, 101, 114, 32, 111, 102, 32, 105, 116] : List Int).getD j 0) := ⟨2, rfl, by decide, rfl, rfl, rfl, by decide, fun j hj => by
  rcases (show j = 0 ∨ j = 1 ∨ j = 2 ∨ j = 3 ∨ j = 4 ∨ j = 5 ∨ j = 6 ∨ j = 7 ∨ j = 8 ∨ j = 9 ∨ j = 10 ∨ j = 11 ∨ j = 12 ∨ j = 13 ∨ j = 14 ∨ j = 15 ∨ j = 16 ∨ j = 17 ∨ j = 18 ∨ j = 19 ∨ j = 20 ∨ j = 21 ∨ j = 22 ∨ j = 23 ∨ j = 24 ∨ j = 25 ∨ j = 26 ∨ j = 27 ∨ j = 28 ∨ j = 29 ∨ j = 30 ∨ j = 31 ∨ j = 32 ∨ j = 33 ∨ j = 34 ∨ j = 35 ∨ j = 36 ∨ j = 37 ∨ j = 38 ∨ j = 39 ∨ j = 40 ∨ j = 41 ∨ j = 42 ∨ j = 43 ∨ j = 44 ∨ j = 45 ∨ j = 46 ∨ j = 47 ∨ j = 48 by omega) with rfl | rfl | rfl | rfl | rfl | rfl | rfl | rfl | rfl | rfl | rfl | rfl | rfl | rfl | rfl | rfl | rfl | rfl | rfl | rfl | rfl | rfl | rfl | rfl | rfl | rfl | rfl | rfl | rfl | rfl | rfl | rfl | rfl | rfl | rfl | rfl | rfl | rfl | rfl | rfl | rfl | rfl | rfl | rfl | rfl | rfl | rfl | rfl | rfl <;> exact ⟨rfl, by decide⟩⟩
theorem str_142 : zStr (zb_M Z) 142 242 21 (fun j => ([116, 104, 101, 114, 101, 32, 105, 115, 32, 110, 111, 32, 115, 117, 99, 104, 32, 112, 101, 97, 107] : List Int).getD j 0) := ⟨2, rfl, by decide, rfl, rfl, rfl, by decide, fun j hj => by
  rcases (show j = 0 ∨ j = 1 ∨ j = 2 ∨ j = 3 ∨ j = 4 ∨ j = 5 ∨ j = 6 ∨ j = 7 ∨ j = 8 ∨ j = 9 ∨ j = 10 ∨ j = 11 ∨ j = 12 ∨ j = 13 ∨ j = 14 ∨ j = 15 ∨ j = 16 ∨ j = 17 ∨ j = 18 ∨ j = 19 ∨ j = 20 by omega) with rfl | rfl | rfl | rfl | rfl | rfl | rfl | rfl | rfl | rfl | rfl | rfl | rfl | rfl | rfl | rfl | rfl | rfl | rfl | rfl | rfl <;> exact ⟨rfl, by decide⟩⟩
theorem str_143 : zStr (zb_M Z) 143 243 30 (fun j => ([116, 104, 101, 32, 109, 105, 110, 117, 116, 101, 32, 105, 115, 32, 111, 117, 116, 32, 111, 102, 32, 105, 116, 115, 32, 114, 97, 110, 103, 101] : List Int).getD j 0) := ⟨2, rfl, by decide, rfl, rfl, rfl, by decide, fun j hj => by
  rcases (show j = 0 ∨ j = 1 ∨ j = 2 ∨ j = 3 ∨ j = 4 ∨ j = 5 ∨ j = 6 ∨ j = 7 ∨ j = 8 ∨ j = 9 ∨ j = 10 ∨ j = 11 ∨ j = 12 ∨ j = 13 ∨ j = 14 ∨ j = 15 ∨ j = 16 ∨ j = 17 ∨ j = 18 ∨ j = 19 ∨ j = 20 ∨ j = 21 ∨ j = 22 ∨ j = 23 ∨ j = 24 ∨ j = 25 ∨ j = 26 ∨ j = 27 ∨ j = 28 ∨ j = 29 by omega) with rfl | rfl | rfl | rfl | rfl | rfl | rfl | rfl | rfl | rfl | rfl | rfl | rfl | rfl | rfl | rfl | rfl | rfl | rfl | rfl | rfl | rfl | rfl | rfl | rfl | rfl | rfl | rfl | rfl | rfl <;> exact ⟨rfl, by decide⟩⟩
theorem str_144 : zStr (zb_M Z) 144 244 21 (fun j => ([116, 104, 101, 114, 101, 32, 105, 115, 32, 110, 111, 32, 115, 117, 99, 104, 32, 112, 97, 115, 115] : List Int).getD j 0) := ⟨2, rfl, by decide, rfl, rfl, rfl, by decide, fun j hj => by
  rcases (show j = 0 ∨ j = 1 ∨ j = 2 ∨ j = 3 ∨ j = 4 ∨ j = 5 ∨ j = 6 ∨ j = 7 ∨ j = 8 ∨ j = 9 ∨ j = 10 ∨ j = 11 ∨ j = 12 ∨ j = 13 ∨ j = 14 ∨ j = 15 ∨ j = 16 ∨ j = 17 ∨ j = 18 ∨ j = 19 ∨ j = 20 by omega) with rfl | rfl | rfl | rfl | rfl | rfl | rfl | rfl | rfl | rfl | rfl | rfl | rfl | rfl | rfl | rfl | rfl | rfl | rfl | rfl | rfl <;> exact ⟨rfl, by decide⟩⟩
theorem str_145 : zStr (zb_M Z) 145 245 34 (fun j => ([116, 104, 101, 32, 109, 105, 110, 117, 116, 101, 115, 32, 97, 114, 101, 32, 111, 117, 116, 32, 111, 102, 32, 116, 104, 101, 105, 114, 32, 114, 97, 110, 103, 101] : List Int).getD j 0) := ⟨2, rfl, by decide, rfl, rfl, rfl, by decide, fun j hj => by
  rcases (show j = 0 ∨ j = 1 ∨ j = 2 ∨ j = 3 ∨ j = 4 ∨ j = 5 ∨ j = 6 ∨ j = 7 ∨ j = 8 ∨ j = 9 ∨ j = 10 ∨ j = 11 ∨ j = 12 ∨ j = 13 ∨ j = 14 ∨ j = 15 ∨ j = 16 ∨ j = 17 ∨ j = 18 ∨ j = 19 ∨ j = 20 ∨ j = 21 ∨ j = 22 ∨ j = 23 ∨ j = 24 ∨ j = 25 ∨ j = 26 ∨ j = 27 ∨ j = 28 ∨ j = 29 ∨ j = 30 ∨ j = 31 ∨ j = 32 ∨ j = 33 by omega) with rfl | rfl | rfl | rfl | rfl | rfl | rfl | rfl | rfl | rfl | rfl | rfl | rfl | rfl | rfl | rfl | rfl | rfl | rfl | rfl | rfl | rfl | rfl | rfl | rfl | rfl | rfl | rfl | rfl | rfl | rfl | rfl | rfl | rfl <;> exact ⟨rfl, by decide⟩⟩
theorem str_146 : zStr (zb_M Z) 146 246 24 (fun j => ([116, 104, 101, 114, 101, 32, 105, 115, 32, 110, 111, 32, 115, 117, 99, 104, 32, 109, 101, 115, 115, 97, 103, 101] : List Int).getD j 0) := ⟨2, rfl, by decide, rfl, rfl, rfl, by decide, fun j hj => by
  rcases (show j = 0 ∨ j = 1 ∨ j = 2 ∨ j = 3 ∨ j = 4 ∨ j = 5 ∨ j = 6 ∨ j = 7 ∨ j = 8 ∨ j = 9 ∨ j = 10 ∨ j = 11 ∨ j = 12 ∨ j = 13 ∨ j = 14 ∨ j = 15 ∨ j = 16 ∨ j = 17 ∨ j = 18 ∨ j = 19 ∨ j = 20 ∨ j = 21 ∨ j = 22 ∨ j = 23 by omega) with rfl | rfl | rfl | rfl | rfl | rfl | rfl | rfl | rfl | rfl | rfl | rfl | rfl | rfl | rfl | rfl | rfl | rfl | rfl | rfl | rfl | rfl | rfl | rfl <;> exact ⟨rfl, by decide⟩⟩
theorem str_147 : zStr (zb_M Z) 147 247 24 (fun j => ([116, 104, 105, 115, 32, 99, 97, 110, 32, 110, 111, 116, 32, 98, 101, 32, 102, 111, 114, 101, 115, 101, 101, 110] : List Int).getD j 0) := ⟨2, rfl, by decide, rfl, rfl, rfl, by decide, fun j hj => by
  rcases (show j = 0 ∨ j = 1 ∨ j = 2 ∨ j = 3 ∨ j = 4 ∨ j = 5 ∨ j = 6 ∨ j = 7 ∨ j = 8 ∨ j = 9 ∨ j = 10 ∨ j = 11 ∨ j = 12 ∨ j = 13 ∨ j = 14 ∨ j = 15 ∨ j = 16 ∨ j = 17 ∨ j = 18 ∨ j = 19 ∨ j = 20 ∨ j = 21 ∨ j = 22 ∨ j = 23 by omega) with rfl | rfl | rfl | rfl | rfl | rfl | rfl | rfl | rfl | rfl | rfl | rfl | rfl | rfl | rfl | rfl | rfl | rfl | rfl | rfl | rfl | rfl | rfl | rfl <;> exact ⟨rfl, by decide⟩⟩
theorem str_148 : zStr (zb_M Z) 148 248 25 (fun j => ([116, 104, 101, 32, 116, 97, 112, 101, 32, 105, 115, 32, 110, 111, 116, 32, 116, 104, 97, 116, 32, 108, 111, 110, 103] : List Int).getD j 0) := ⟨2, rfl, by decide, rfl, rfl, rfl, by decide, fun j hj => by
  rcases (show j = 0 ∨ j = 1 ∨ j = 2 ∨ j = 3 ∨ j = 4 ∨ j = 5 ∨ j = 6 ∨ j = 7 ∨ j = 8 ∨ j = 9 ∨ j = 10 ∨ j = 11 ∨ j = 12 ∨ j = 13 ∨ j = 14 ∨ j = 15 ∨ j = 16 ∨ j = 17 ∨ j = 18 ∨ j = 19 ∨ j = 20 ∨ j = 21 ∨ j = 22 ∨ j = 23 ∨ j = 24 by omega) with rfl | rfl | rfl | rfl | rfl | rfl | rfl | rfl | rfl | rfl | rfl | rfl | rfl | rfl | rfl | rfl | rfl | rfl | rfl | rfl | rfl | rfl | rfl | rfl | rfl <;> exact ⟨rfl, by decide⟩⟩
theorem str_149 : zStr (zb_M Z) 149 249 26 (fun j => ([116, 104, 101, 32, 116, 97, 112, 101, 32, 119, 111, 117, 108, 100, 32, 98, 101, 32, 116, 111, 111, 32, 108, 111, 110, 103] : List Int).getD j 0) := ⟨2, rfl, by decide, rfl, rfl, rfl, by decide, fun j hj => by
  rcases (show j = 0 ∨ j = 1 ∨ j = 2 ∨ j = 3 ∨ j = 4 ∨ j = 5 ∨ j = 6 ∨ j = 7 ∨ j = 8 ∨ j = 9 ∨ j = 10 ∨ j = 11 ∨ j = 12 ∨ j = 13 ∨ j = 14 ∨ j = 15 ∨ j = 16 ∨ j = 17 ∨ j = 18 ∨ j = 19 ∨ j = 20 ∨ j = 21 ∨ j = 22 ∨ j = 23 ∨ j = 24 ∨ j = 25 by omega) with rfl | rfl | rfl | rfl | rfl | rfl | rfl | rfl | rfl | rfl | rfl | rfl | rfl | rfl | rfl | rfl | rfl | rfl | rfl | rfl | rfl | rfl | rfl | rfl | rfl | rfl <;> exact ⟨rfl, by decide⟩⟩
theorem str_150 : zStr (zb_M Z) 150 250 45 (fun j => ([116, 104, 101, 32, 112, 101, 97, 107, 32, 104, 97, 115, 32, 97, 108, 108, 32, 116, 104, 101, 32, 109, 105, 114, 114, 111, 114, 115, 32, 116, 104, 97, 116, 32, 105, 116, 32, 99, 97, 110, 32, 104, 97, 118, 101] : List Int).getD j 0) := ⟨2, rfl, by decide, rfl, rfl, rfl, by decide, fun j hj => by
  rcases (show j = 0 ∨ j = 1 ∨ j = 2 ∨ j = 3 ∨ j = 4 ∨ j = 5 ∨ j = 6 ∨ j = 7 ∨ j = 8 ∨ j = 9 ∨ j = 10 ∨ j = 11 ∨ j = 12 ∨ j = 13 ∨ j = 14 ∨ j = 15 ∨ j = 16 ∨ j = 17 ∨ j = 18 ∨ j = 19 ∨ j = 20 ∨ j = 21 ∨ j = 22 ∨ j = 23 ∨ j = 24 ∨ j = 25 ∨ j = 26 ∨ j = 27 ∨ j = 28 ∨ j = 29 ∨ j = 30 ∨ j = 31 ∨ j = 32 ∨ j = 33 ∨ j = 34 ∨ j = 35 ∨ j = 36 ∨ j = 37 ∨ j = 38 ∨ j = 39 ∨ j = 40 ∨ j = 41 ∨ j = 42 ∨ j = 43 ∨ j = 44 by omega) with rfl | rfl | rfl | rfl | rfl | rfl | rfl | rfl | rfl | rfl | rfl | rfl | rfl | rfl | rfl | rfl | rfl | rfl | rfl | rfl | rfl | rfl | rfl | rfl | rfl | rfl | rfl | rfl | rfl | rfl | rfl | rfl | rfl | rfl | rfl | rfl | rfl | rfl | rfl | rfl | rfl | rfl | rfl | rfl | rfl <;> exact ⟨rfl, by decide⟩⟩
theorem str_151 : zStr (zb_M Z) 151 251 29 (fun j => ([110, 111, 32, 109, 105, 114, 114, 111, 114, 32, 111, 102, 32, 116, 104, 101, 32, 112, 101, 97, 107, 32, 105, 115, 32, 102, 114, 101, 101] : List Int).getD j 0) := ⟨2, rfl, by decide, rfl, rfl, rfl, by decide, fun j hj => by
  rcases (show j = 0 ∨ j = 1 ∨ j = 2 ∨ j = 3 ∨ j = 4 ∨ j = 5 ∨ j = 6 ∨ j = 7 ∨ j = 8 ∨ j = 9 ∨ j = 10 ∨ j = 11 ∨ j = 12 ∨ j = 13 ∨ j = 14 ∨ j = 15 ∨ j = 16 ∨ j = 17 ∨ j = 18 ∨ j = 19 ∨ j = 20 ∨ j = 21 ∨ j = 22 ∨ j = 23 ∨ j = 24 ∨ j = 25 ∨ j = 26 ∨ j = 27 ∨ j = 28 by omega) with rfl | rfl | rfl | rfl | rfl | rfl | rfl | rfl | rfl | rfl | rfl | rfl | rfl | rfl | rfl | rfl | rfl | rfl | rfl | rfl | rfl | rfl | rfl | rfl | rfl | rfl | rfl | rfl | rfl <;> exact ⟨rfl, by decide⟩⟩
theorem str_152 : zStr (zb_M Z) 152 252 26 (fun j => ([116, 104, 101, 32, 109, 101, 115, 115, 97, 103, 101, 32, 105, 115, 32, 110, 111, 116, 32, 102, 108, 97, 115, 104, 101, 100] : List Int).getD j 0) := ⟨2, rfl, by decide, rfl, rfl, rfl, by decide, fun j hj => by
  rcases (show j = 0 ∨ j = 1 ∨ j = 2 ∨ j = 3 ∨ j = 4 ∨ j = 5 ∨ j = 6 ∨ j = 7 ∨ j = 8 ∨ j = 9 ∨ j = 10 ∨ j = 11 ∨ j = 12 ∨ j = 13 ∨ j = 14 ∨ j = 15 ∨ j = 16 ∨ j = 17 ∨ j = 18 ∨ j = 19 ∨ j = 20 ∨ j = 21 ∨ j = 22 ∨ j = 23 ∨ j = 24 ∨ j = 25 by omega) with rfl | rfl | rfl | rfl | rfl | rfl | rfl | rfl | rfl | rfl | rfl | rfl | rfl | rfl | rfl | rfl | rfl | rfl | rfl | rfl | rfl | rfl | rfl | rfl | rfl | rfl <;> exact ⟨rfl, by decide⟩⟩
theorem str_153 : zStr (zb_M Z) 153 253 41 (fun j => ([116, 104, 101, 114, 101, 32, 105, 115, 32, 110, 111, 32, 115, 117, 99, 104, 32, 109, 101, 115, 115, 97, 103, 101, 44, 32, 111, 114, 32, 110, 111, 32, 115, 117, 99, 104, 32, 112, 101, 97, 107] : List Int).getD j 0) := ⟨2, rfl, by decide, rfl, rfl, rfl, by decide, fun j hj => by
  rcases (show j = 0 ∨ j = 1 ∨ j = 2 ∨ j = 3 ∨ j = 4 ∨ j = 5 ∨ j = 6 ∨ j = 7 ∨ j = 8 ∨ j = 9 ∨ j = 10 ∨ j = 11 ∨ j = 12 ∨ j = 13 ∨ j = 14 ∨ j = 15 ∨ j = 16 ∨ j = 17 ∨ j = 18 ∨ j = 19 ∨ j = 20 ∨ j = 21 ∨ j = 22 ∨ j = 23 ∨ j = 24 ∨ j = 25 ∨ j = 26 ∨ j = 27 ∨ j = 28 ∨ j = 29 ∨ j = 30 ∨ j = 31 ∨ j = 32 ∨ j = 33 ∨ j = 34 ∨ j = 35 ∨ j = 36 ∨ j = 37 ∨ j = 38 ∨ j = 39 ∨ j = 40 by omega) with rfl | rfl | rfl | rfl | rfl | rfl | rfl | rfl | rfl | rfl | rfl | rfl | rfl | rfl | rfl | rfl | rfl | rfl | rfl | rfl | rfl | rfl | rfl | rfl | rfl | rfl | rfl | rfl | rfl | rfl | rfl | rfl | rfl | rfl | rfl | rfl | rfl | rfl | rfl | rfl | rfl <;> exact ⟨rfl, by decide⟩⟩
theorem str_154 : zStr (zb_M Z) 154 254 27 (fun j => ([116, 104, 101, 32, 109, 101, 115, 115, 97, 103, 101, 32, 105, 115, 32, 97, 116, 32, 116, 104, 97, 116, 32, 112, 101, 97, 107] : List Int).getD j 0) := ⟨2, rfl, by decide, rfl, rfl, rfl, by decide, fun j hj => by
  rcases (show j = 0 ∨ j = 1 ∨ j = 2 ∨ j = 3 ∨ j = 4 ∨ j = 5 ∨ j = 6 ∨ j = 7 ∨ j = 8 ∨ j = 9 ∨ j = 10 ∨ j = 11 ∨ j = 12 ∨ j = 13 ∨ j = 14 ∨ j = 15 ∨ j = 16 ∨ j = 17 ∨ j = 18 ∨ j = 19 ∨ j = 20 ∨ j = 21 ∨ j = 22 ∨ j = 23 ∨ j = 24 ∨ j = 25 ∨ j = 26 by omega) with rfl | rfl | rfl | rfl | rfl | rfl | rfl | rfl | rfl | rfl | rfl | rfl | rfl | rfl | rfl | rfl | rfl | rfl | rfl | rfl | rfl | rfl | rfl | rfl | rfl | rfl | rfl <;> exact ⟨rfl, by decide⟩⟩
theorem str_155 : zStr (zb_M Z) 155 255 24 (fun j => ([116, 104, 101, 32, 109, 101, 115, 115, 97, 103, 101, 32, 105, 115, 32, 110, 111, 116, 32, 116, 104, 101, 114, 101] : List Int).getD j 0) := ⟨2, rfl, by decide, rfl, rfl, rfl, by decide, fun j hj => by
  rcases (show j = 0 ∨ j = 1 ∨ j = 2 ∨ j = 3 ∨ j = 4 ∨ j = 5 ∨ j = 6 ∨ j = 7 ∨ j = 8 ∨ j = 9 ∨ j = 10 ∨ j = 11 ∨ j = 12 ∨ j = 13 ∨ j = 14 ∨ j = 15 ∨ j = 16 ∨ j = 17 ∨ j = 18 ∨ j = 19 ∨ j = 20 ∨ j = 21 ∨ j = 22 ∨ j = 23 by omega) with rfl | rfl | rfl | rfl | rfl | rfl | rfl | rfl | rfl | rfl | rfl | rfl | rfl | rfl | rfl | rfl | rfl | rfl | rfl | rfl | rfl | rfl | rfl | rfl <;> exact ⟨rfl, by decide⟩⟩
theorem str_kind {i : Nat} (hi : i < 48) : zStr (zb_M Z) (kS i) (kS i + 100) (kT i).length (fun j => (kT i).getD j 0) := by
  rcases (show i = 0 ∨ i = 1 ∨ i = 2 ∨ i = 3 ∨ i = 4 ∨ i = 5 ∨ i = 6 ∨ i = 7 ∨ i = 8 ∨ i = 9 ∨ i = 10 ∨ i = 11 ∨ i = 12 ∨ i = 13 ∨ i = 14 ∨ i = 15 ∨ i = 16 ∨ i = 17 ∨ i = 18 ∨ i = 19 ∨ i = 20 ∨ i = 21 ∨ i = 22 ∨ i = 23 ∨ i = 24 ∨ i = 25 ∨ i = 26 ∨ i = 27 ∨ i = 28 ∨ i = 29 ∨ i = 30 ∨ i = 31 ∨ i = 32 ∨ i = 33 ∨ i = 34 ∨ i = 35 ∨ i = 36 ∨ i = 37 ∨ i = 38 ∨ i = 39 ∨ i = 40 ∨ i = 41 ∨ i = 42 ∨ i = 43 ∨ i = 44 ∨ i = 45 ∨ i = 46 ∨ i = 47 by omega) with rfl | rfl | rfl | rfl | rfl | rfl | rfl | rfl | rfl | rfl | rfl | rfl | rfl | rfl | rfl | rfl | rfl | rfl | rfl | rfl | rfl | rfl | rfl | rfl | rfl | rfl | rfl | rfl | rfl | rfl | rfl | rfl | rfl | rfl | rfl | rfl | rfl | rfl | rfl | rfl | rfl | rfl | rfl | rfl | rfl | rfl | rfl | rfl
  · exact str_60
  · exact str_61
  · exact str_62
  · exact str_63
  · exact str_64
  · exact str_65
  · exact str_66
  · exact str_67
  · exact str_68
  · exact str_69
  · exact str_70
  · exact str_71
  · exact str_72
  · exact str_73
  · exact str_74
  · exact str_75
  · exact str_76
  · exact str_77
  · exact str_78
  · exact str_79
  · exact str_80
  · exact str_81
  · exact str_82
  · exact str_83
  · exact str_84
  · exact str_85
  · exact str_86
  · exact str_87
  · exact str_88
  · exact str_89
  · exact str_90
  · exact str_91
  · exact str_92
  · exact str_93
  · exact str_94
  · exact str_95
  · exact str_96
  · exact str_97
  · exact str_98
  · exact str_99
  · exact str_100
  · exact str_101
  · exact str_102
  · exact str_103
  · exact str_104
  · exact str_104
  · exact str_104
  · exact str_104
theorem kind_text {i : Nat} (hi : i < 48) : zb_s i = (10, 1) ∧ zb_v Z i 0 = .ref (kS i) ∧ zb_v Z 48 i = .ref i := by
  rcases (show i = 0 ∨ i = 1 ∨ i = 2 ∨ i = 3 ∨ i = 4 ∨ i = 5 ∨ i = 6 ∨ i = 7 ∨ i = 8 ∨ i = 9 ∨ i = 10 ∨ i = 11 ∨ i = 12 ∨ i = 13 ∨ i = 14 ∨ i = 15 ∨ i = 16 ∨ i = 17 ∨ i = 18 ∨ i = 19 ∨ i = 20 ∨ i = 21 ∨ i = 22 ∨ i = 23 ∨ i = 24 ∨ i = 25 ∨ i = 26 ∨ i = 27 ∨ i = 28 ∨ i = 29 ∨ i = 30 ∨ i = 31 ∨ i = 32 ∨ i = 33 ∨ i = 34 ∨ i = 35 ∨ i = 36 ∨ i = 37 ∨ i = 38 ∨ i = 39 ∨ i = 40 ∨ i = 41 ∨ i = 42 ∨ i = 43 ∨ i = 44 ∨ i = 45 ∨ i = 46 ∨ i = 47 by omega) with rfl | rfl | rfl | rfl | rfl | rfl | rfl | rfl | rfl | rfl | rfl | rfl | rfl | rfl | rfl | rfl | rfl | rfl | rfl | rfl | rfl | rfl | rfl | rfl | rfl | rfl | rfl | rfl | rfl | rfl | rfl | rfl | rfl | rfl | rfl | rfl | rfl | rfl | rfl | rfl | rfl | rfl | rfl | rfl | rfl | rfl | rfl | rfl <;> exact ⟨rfl, rfl, rfl⟩
theorem kT_len {i : Nat} (hi : i < 48) : (kT i).length ≤ 10 := by
  rcases (show i = 0 ∨ i = 1 ∨ i = 2 ∨ i = 3 ∨ i = 4 ∨ i = 5 ∨ i = 6 ∨ i = 7 ∨ i = 8 ∨ i = 9 ∨ i = 10 ∨ i = 11 ∨ i = 12 ∨ i = 13 ∨ i = 14 ∨ i = 15 ∨ i = 16 ∨ i = 17 ∨ i = 18 ∨ i = 19 ∨ i = 20 ∨ i = 21 ∨ i = 22 ∨ i = 23 ∨ i = 24 ∨ i = 25 ∨ i = 26 ∨ i = 27 ∨ i = 28 ∨ i = 29 ∨ i = 30 ∨ i = 31 ∨ i = 32 ∨ i = 33 ∨ i = 34 ∨ i = 35 ∨ i = 36 ∨ i = 37 ∨ i = 38 ∨ i = 39 ∨ i = 40 ∨ i = 41 ∨ i = 42 ∨ i = 43 ∨ i = 44 ∨ i = 45 ∨ i = 46 ∨ i = 47 by omega) with rfl | rfl | rfl | rfl | rfl | rfl | rfl | rfl | rfl | rfl | rfl | rfl | rfl | rfl | rfl | rfl | rfl | rfl | rfl | rfl | rfl | rfl | rfl | rfl | rfl | rfl | rfl | rfl | rfl | rfl | rfl | rfl | rfl | rfl | rfl | rfl | rfl | rfl | rfl | rfl | rfl | rfl | rfl | rfl | rfl | rfl | rfl | rfl <;> decide
end
