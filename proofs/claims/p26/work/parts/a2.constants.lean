/-! THE STRING CONSTANTS OF THE LAW; append IN THE LAW -/
section
variable {l : Launch} {Γ : zk_G} {d : Nat} {F : Heap → Prop}
def tS105 : List Int := [112, 101, 97, 107, 32, 112]
theorem zs_105 {len : Nat} {s : Nat → Int32} {M : zk_M} (h : zOl0 len s M) : zSg M 105 (105 + 100) tS105 := h.str 105 6 tS105 (by decide) ⟨by decide, by decide⟩ rfl rfl rfl rfl rfl (by decide) (fun j hj => match j, hj with | 0, _ => ⟨rfl, by decide, by decide⟩ | 1, _ => ⟨rfl, by decide, by decide⟩ | 2, _ => ⟨rfl, by decide, by decide⟩ | 3, _ => ⟨rfl, by decide, by decide⟩ | 4, _ => ⟨rfl, by decide, by decide⟩ | 5, _ => ⟨rfl, by decide, by decide⟩ | j + 6, hj => absurd hj (by omega))
def tS106 : List Int := [32, 115, 117, 110, 32, 102, 114, 111, 109, 32]
theorem zs_106 {len : Nat} {s : Nat → Int32} {M : zk_M} (h : zOl0 len s M) : zSg M 106 (106 + 100) tS106 := h.str 106 10 tS106 (by decide) ⟨by decide, by decide⟩ rfl rfl rfl rfl rfl (by decide) (fun j hj => match j, hj with | 0, _ => ⟨rfl, by decide, by decide⟩ | 1, _ => ⟨rfl, by decide, by decide⟩ | 2, _ => ⟨rfl, by decide, by decide⟩ | 3, _ => ⟨rfl, by decide, by decide⟩ | 4, _ => ⟨rfl, by decide, by decide⟩ | 5, _ => ⟨rfl, by decide, by decide⟩ | 6, _ => ⟨rfl, by decide, by decide⟩ | 7, _ => ⟨rfl, by decide, by decide⟩ | 8, _ => ⟨rfl, by decide, by decide⟩ | 9, _ => ⟨rfl, by decide, by decide⟩ | j + 10, hj => absurd hj (by omega))
def tS107 : List Int := [32, 116, 111, 32]
theorem zs_107 {len : Nat} {s : Nat → Int32} {M : zk_M} (h : zOl0 len s M) : zSg M 107 (107 + 100) tS107 := h.str 107 4 tS107 (by decide) ⟨by decide, by decide⟩ rfl rfl rfl rfl rfl (by decide) (fun j hj => match j, hj with | 0, _ => ⟨rfl, by decide, by decide⟩ | 1, _ => ⟨rfl, by decide, by decide⟩ | 2, _ => ⟨rfl, by decide, by decide⟩ | 3, _ => ⟨rfl, by decide, by decide⟩ | j + 4, hj => absurd hj (by omega))
def tS108 : List Int := [32, 109, 105, 114, 114, 111, 114, 115, 32]
theorem zs_108 {len : Nat} {s : Nat → Int32} {M : zk_M} (h : zOl0 len s M) : zSg M 108 (108 + 100) tS108 := h.str 108 9 tS108 (by decide) ⟨by decide, by decide⟩ rfl rfl rfl rfl rfl (by decide) (fun j hj => match j, hj with | 0, _ => ⟨rfl, by decide, by decide⟩ | 1, _ => ⟨rfl, by decide, by decide⟩ | 2, _ => ⟨rfl, by decide, by decide⟩ | 3, _ => ⟨rfl, by decide, by decide⟩ | 4, _ => ⟨rfl, by decide, by decide⟩ | 5, _ => ⟨rfl, by decide, by decide⟩ | 6, _ => ⟨rfl, by decide, by decide⟩ | 7, _ => ⟨rfl, by decide, by decide⟩ | 8, _ => ⟨rfl, by decide, by decide⟩ | j + 9, hj => absurd hj (by omega))
def tS93 : List Int := [59]
theorem zs_93 {len : Nat} {s : Nat → Int32} {M : zk_M} (h : zOl0 len s M) : zSg M 93 (93 + 100) tS93 := h.str 93 1 tS93 (by decide) ⟨by decide, by decide⟩ rfl rfl rfl rfl rfl (by decide) (fun j hj => match j, hj with | 0, _ => ⟨rfl, by decide, by decide⟩ | j + 1, hj => absurd hj (by omega))
def tS109 : List Int := [112, 97, 115, 115, 32, 119]
theorem zs_109 {len : Nat} {s : Nat → Int32} {M : zk_M} (h : zOl0 len s M) : zSg M 109 (109 + 100) tS109 := h.str 109 6 tS109 (by decide) ⟨by decide, by decide⟩ rfl rfl rfl rfl rfl (by decide) (fun j hj => match j, hj with | 0, _ => ⟨rfl, by decide, by decide⟩ | 1, _ => ⟨rfl, by decide, by decide⟩ | 2, _ => ⟨rfl, by decide, by decide⟩ | 3, _ => ⟨rfl, by decide, by decide⟩ | 4, _ => ⟨rfl, by decide, by decide⟩ | 5, _ => ⟨rfl, by decide, by decide⟩ | j + 6, hj => absurd hj (by omega))
def tS110 : List Int := [32, 98, 101, 116, 119, 101, 101, 110, 32, 112]
theorem zs_110 {len : Nat} {s : Nat → Int32} {M : zk_M} (h : zOl0 len s M) : zSg M 110 (110 + 100) tS110 := h.str 110 10 tS110 (by decide) ⟨by decide, by decide⟩ rfl rfl rfl rfl rfl (by decide) (fun j hj => match j, hj with | 0, _ => ⟨rfl, by decide, by decide⟩ | 1, _ => ⟨rfl, by decide, by decide⟩ | 2, _ => ⟨rfl, by decide, by decide⟩ | 3, _ => ⟨rfl, by decide, by decide⟩ | 4, _ => ⟨rfl, by decide, by decide⟩ | 5, _ => ⟨rfl, by decide, by decide⟩ | 6, _ => ⟨rfl, by decide, by decide⟩ | 7, _ => ⟨rfl, by decide, by decide⟩ | 8, _ => ⟨rfl, by decide, by decide⟩ | 9, _ => ⟨rfl, by decide, by decide⟩ | j + 10, hj => absurd hj (by omega))
def tS111 : List Int := [32, 97, 110, 100, 32, 112]
theorem zs_111 {len : Nat} {s : Nat → Int32} {M : zk_M} (h : zOl0 len s M) : zSg M 111 (111 + 100) tS111 := h.str 111 6 tS111 (by decide) ⟨by decide, by decide⟩ rfl rfl rfl rfl rfl (by decide) (fun j hj => match j, hj with | 0, _ => ⟨rfl, by decide, by decide⟩ | 1, _ => ⟨rfl, by decide, by decide⟩ | 2, _ => ⟨rfl, by decide, by decide⟩ | 3, _ => ⟨rfl, by decide, by decide⟩ | 4, _ => ⟨rfl, by decide, by decide⟩ | 5, _ => ⟨rfl, by decide, by decide⟩ | j + 6, hj => absurd hj (by omega))
def tS112 : List Int := [32, 102, 97, 114, 32]
theorem zs_112 {len : Nat} {s : Nat → Int32} {M : zk_M} (h : zOl0 len s M) : zSg M 112 (112 + 100) tS112 := h.str 112 5 tS112 (by decide) ⟨by decide, by decide⟩ rfl rfl rfl rfl rfl (by decide) (fun j hj => match j, hj with | 0, _ => ⟨rfl, by decide, by decide⟩ | 1, _ => ⟨rfl, by decide, by decide⟩ | 2, _ => ⟨rfl, by decide, by decide⟩ | 3, _ => ⟨rfl, by decide, by decide⟩ | 4, _ => ⟨rfl, by decide, by decide⟩ | j + 5, hj => absurd hj (by omega))
def tS113 : List Int := [32, 59, 10]
theorem zs_113 {len : Nat} {s : Nat → Int32} {M : zk_M} (h : zOl0 len s M) : zSg M 113 (113 + 100) tS113 := h.str 113 3 tS113 (by decide) ⟨by decide, by decide⟩ rfl rfl rfl rfl rfl (by decide) (fun j hj => match j, hj with | 0, _ => ⟨rfl, by decide, by decide⟩ | 1, _ => ⟨rfl, by decide, by decide⟩ | 2, _ => ⟨rfl, by decide, by decide⟩ | j + 3, hj => absurd hj (by omega))
def tS114 : List Int := [99, 108, 111, 117, 100, 32, 111, 118, 101, 114, 32, 119]
theorem zs_114 {len : Nat} {s : Nat → Int32} {M : zk_M} (h : zOl0 len s M) : zSg M 114 (114 + 100) tS114 := h.str 114 12 tS114 (by decide) ⟨by decide, by decide⟩ rfl rfl rfl rfl rfl (by decide) (fun j hj => match j, hj with | 0, _ => ⟨rfl, by decide, by decide⟩ | 1, _ => ⟨rfl, by decide, by decide⟩ | 2, _ => ⟨rfl, by decide, by decide⟩ | 3, _ => ⟨rfl, by decide, by decide⟩ | 4, _ => ⟨rfl, by decide, by decide⟩ | 5, _ => ⟨rfl, by decide, by decide⟩ | 6, _ => ⟨rfl, by decide, by decide⟩ | 7, _ => ⟨rfl, by decide, by decide⟩ | 8, _ => ⟨rfl, by decide, by decide⟩ | 9, _ => ⟨rfl, by decide, by decide⟩ | 10, _ => ⟨rfl, by decide, by decide⟩ | 11, _ => ⟨rfl, by decide, by decide⟩ | j + 12, hj => absurd hj (by omega))
def tS115 : List Int := [32, 101, 118, 101, 114, 121, 32]
theorem zs_115 {len : Nat} {s : Nat → Int32} {M : zk_M} (h : zOl0 len s M) : zSg M 115 (115 + 100) tS115 := h.str 115 7 tS115 (by decide) ⟨by decide, by decide⟩ rfl rfl rfl rfl rfl (by decide) (fun j hj => match j, hj with | 0, _ => ⟨rfl, by decide, by decide⟩ | 1, _ => ⟨rfl, by decide, by decide⟩ | 2, _ => ⟨rfl, by decide, by decide⟩ | 3, _ => ⟨rfl, by decide, by decide⟩ | 4, _ => ⟨rfl, by decide, by decide⟩ | 5, _ => ⟨rfl, by decide, by decide⟩ | 6, _ => ⟨rfl, by decide, by decide⟩ | j + 7, hj => absurd hj (by omega))
def tS116 : List Int := [32, 102, 111, 114, 32]
theorem zs_116 {len : Nat} {s : Nat → Int32} {M : zk_M} (h : zOl0 len s M) : zSg M 116 (116 + 100) tS116 := h.str 116 5 tS116 (by decide) ⟨by decide, by decide⟩ rfl rfl rfl rfl rfl (by decide) (fun j hj => match j, hj with | 0, _ => ⟨rfl, by decide, by decide⟩ | 1, _ => ⟨rfl, by decide, by decide⟩ | 2, _ => ⟨rfl, by decide, by decide⟩ | 3, _ => ⟨rfl, by decide, by decide⟩ | 4, _ => ⟨rfl, by decide, by decide⟩ | j + 5, hj => absurd hj (by omega))
def tS117 : List Int := [32, 102, 114, 111, 109, 32]
theorem zs_117 {len : Nat} {s : Nat → Int32} {M : zk_M} (h : zOl0 len s M) : zSg M 117 (117 + 100) tS117 := h.str 117 6 tS117 (by decide) ⟨by decide, by decide⟩ rfl rfl rfl rfl rfl (by decide) (fun j hj => match j, hj with | 0, _ => ⟨rfl, by decide, by decide⟩ | 1, _ => ⟨rfl, by decide, by decide⟩ | 2, _ => ⟨rfl, by decide, by decide⟩ | 3, _ => ⟨rfl, by decide, by decide⟩ | 4, _ => ⟨rfl, by decide, by decide⟩ | 5, _ => ⟨rfl, by decide, by decide⟩ | j + 6, hj => absurd hj (by omega))
def tS118 : List Int := [109, 101, 115, 115, 97, 103, 101, 32, 109]
theorem zs_118 {len : Nat} {s : Nat → Int32} {M : zk_M} (h : zOl0 len s M) : zSg M 118 (118 + 100) tS118 := h.str 118 9 tS118 (by decide) ⟨by decide, by decide⟩ rfl rfl rfl rfl rfl (by decide) (fun j hj => match j, hj with | 0, _ => ⟨rfl, by decide, by decide⟩ | 1, _ => ⟨rfl, by decide, by decide⟩ | 2, _ => ⟨rfl, by decide, by decide⟩ | 3, _ => ⟨rfl, by decide, by decide⟩ | 4, _ => ⟨rfl, by decide, by decide⟩ | 5, _ => ⟨rfl, by decide, by decide⟩ | 6, _ => ⟨rfl, by decide, by decide⟩ | 7, _ => ⟨rfl, by decide, by decide⟩ | 8, _ => ⟨rfl, by decide, by decide⟩ | j + 9, hj => absurd hj (by omega))
def tS119 : List Int := [32, 119, 111, 114, 100, 115, 32]
theorem zs_119 {len : Nat} {s : Nat → Int32} {M : zk_M} (h : zOl0 len s M) : zSg M 119 (119 + 100) tS119 := h.str 119 7 tS119 (by decide) ⟨by decide, by decide⟩ rfl rfl rfl rfl rfl (by decide) (fun j hj => match j, hj with | 0, _ => ⟨rfl, by decide, by decide⟩ | 1, _ => ⟨rfl, by decide, by decide⟩ | 2, _ => ⟨rfl, by decide, by decide⟩ | 3, _ => ⟨rfl, by decide, by decide⟩ | 4, _ => ⟨rfl, by decide, by decide⟩ | 5, _ => ⟨rfl, by decide, by decide⟩ | 6, _ => ⟨rfl, by decide, by decide⟩ | j + 7, hj => absurd hj (by omega))
def tS120 : List Int := [32, 97, 116, 32, 112]
theorem zs_120 {len : Nat} {s : Nat → Int32} {M : zk_M} (h : zOl0 len s M) : zSg M 120 (120 + 100) tS120 := h.str 120 5 tS120 (by decide) ⟨by decide, by decide⟩ rfl rfl rfl rfl rfl (by decide) (fun j hj => match j, hj with | 0, _ => ⟨rfl, by decide, by decide⟩ | 1, _ => ⟨rfl, by decide, by decide⟩ | 2, _ => ⟨rfl, by decide, by decide⟩ | 3, _ => ⟨rfl, by decide, by decide⟩ | 4, _ => ⟨rfl, by decide, by decide⟩ | j + 5, hj => absurd hj (by omega))
def tS121 : List Int := [32, 116, 111, 32, 112]
theorem zs_121 {len : Nat} {s : Nat → Int32} {M : zk_M} (h : zOl0 len s M) : zSg M 121 (121 + 100) tS121 := h.str 121 5 tS121 (by decide) ⟨by decide, by decide⟩ rfl rfl rfl rfl rfl (by decide) (fun j hj => match j, hj with | 0, _ => ⟨rfl, by decide, by decide⟩ | 1, _ => ⟨rfl, by decide, by decide⟩ | 2, _ => ⟨rfl, by decide, by decide⟩ | 3, _ => ⟨rfl, by decide, by decide⟩ | 4, _ => ⟨rfl, by decide, by decide⟩ | j + 5, hj => absurd hj (by omega))
def tS122 : List Int := [32, 100, 117, 101, 32]
theorem zs_122 {len : Nat} {s : Nat → Int32} {M : zk_M} (h : zOl0 len s M) : zSg M 122 (122 + 100) tS122 := h.str 122 5 tS122 (by decide) ⟨by decide, by decide⟩ rfl rfl rfl rfl rfl (by decide) (fun j hj => match j, hj with | 0, _ => ⟨rfl, by decide, by decide⟩ | 1, _ => ⟨rfl, by decide, by decide⟩ | 2, _ => ⟨rfl, by decide, by decide⟩ | 3, _ => ⟨rfl, by decide, by decide⟩ | 4, _ => ⟨rfl, by decide, by decide⟩ | j + 5, hj => absurd hj (by omega))
def tS123 : List Int := [104, 111, 108, 100, 32, 109]
theorem zs_123 {len : Nat} {s : Nat → Int32} {M : zk_M} (h : zOl0 len s M) : zSg M 123 (123 + 100) tS123 := h.str 123 6 tS123 (by decide) ⟨by decide, by decide⟩ rfl rfl rfl rfl rfl (by decide) (fun j hj => match j, hj with | 0, _ => ⟨rfl, by decide, by decide⟩ | 1, _ => ⟨rfl, by decide, by decide⟩ | 2, _ => ⟨rfl, by decide, by decide⟩ | 3, _ => ⟨rfl, by decide, by decide⟩ | 4, _ => ⟨rfl, by decide, by decide⟩ | 5, _ => ⟨rfl, by decide, by decide⟩ | j + 6, hj => absurd hj (by omega))
def tS124 : List Int := [32, 119, 104, 101, 110, 32]
theorem zs_124 {len : Nat} {s : Nat → Int32} {M : zk_M} (h : zOl0 len s M) : zSg M 124 (124 + 100) tS124 := h.str 124 6 tS124 (by decide) ⟨by decide, by decide⟩ rfl rfl rfl rfl rfl (by decide) (fun j hj => match j, hj with | 0, _ => ⟨rfl, by decide, by decide⟩ | 1, _ => ⟨rfl, by decide, by decide⟩ | 2, _ => ⟨rfl, by decide, by decide⟩ | 3, _ => ⟨rfl, by decide, by decide⟩ | 4, _ => ⟨rfl, by decide, by decide⟩ | 5, _ => ⟨rfl, by decide, by decide⟩ | j + 6, hj => absurd hj (by omega))
def tS125 : List Int := [109, 105, 110, 117, 116, 101, 60]
theorem zs_125 {len : Nat} {s : Nat → Int32} {M : zk_M} (h : zOl0 len s M) : zSg M 125 (125 + 100) tS125 := h.str 125 7 tS125 (by decide) ⟨by decide, by decide⟩ rfl rfl rfl rfl rfl (by decide) (fun j hj => match j, hj with | 0, _ => ⟨rfl, by decide, by decide⟩ | 1, _ => ⟨rfl, by decide, by decide⟩ | 2, _ => ⟨rfl, by decide, by decide⟩ | 3, _ => ⟨rfl, by decide, by decide⟩ | 4, _ => ⟨rfl, by decide, by decide⟩ | 5, _ => ⟨rfl, by decide, by decide⟩ | 6, _ => ⟨rfl, by decide, by decide⟩ | j + 7, hj => absurd hj (by omega))
def tS126 : List Int := [113, 117, 101, 117, 101, 32, 112]
theorem zs_126 {len : Nat} {s : Nat → Int32} {M : zk_M} (h : zOl0 len s M) : zSg M 126 (126 + 100) tS126 := h.str 126 7 tS126 (by decide) ⟨by decide, by decide⟩ rfl rfl rfl rfl rfl (by decide) (fun j hj => match j, hj with | 0, _ => ⟨rfl, by decide, by decide⟩ | 1, _ => ⟨rfl, by decide, by decide⟩ | 2, _ => ⟨rfl, by decide, by decide⟩ | 3, _ => ⟨rfl, by decide, by decide⟩ | 4, _ => ⟨rfl, by decide, by decide⟩ | 5, _ => ⟨rfl, by decide, by decide⟩ | 6, _ => ⟨rfl, by decide, by decide⟩ | j + 7, hj => absurd hj (by omega))
def tS127 : List Int := [62, 49]
theorem zs_127 {len : Nat} {s : Nat → Int32} {M : zk_M} (h : zOl0 len s M) : zSg M 127 (127 + 100) tS127 := h.str 127 2 tS127 (by decide) ⟨by decide, by decide⟩ rfl rfl rfl rfl rfl (by decide) (fun j hj => match j, hj with | 0, _ => ⟨rfl, by decide, by decide⟩ | 1, _ => ⟨rfl, by decide, by decide⟩ | j + 2, hj => absurd hj (by omega))
def tS128 : List Int := [111, 112, 101, 110, 32, 119]
theorem zs_128 {len : Nat} {s : Nat → Int32} {M : zk_M} (h : zOl0 len s M) : zSg M 128 (128 + 100) tS128 := h.str 128 6 tS128 (by decide) ⟨by decide, by decide⟩ rfl rfl rfl rfl rfl (by decide) (fun j hj => match j, hj with | 0, _ => ⟨rfl, by decide, by decide⟩ | 1, _ => ⟨rfl, by decide, by decide⟩ | 2, _ => ⟨rfl, by decide, by decide⟩ | 3, _ => ⟨rfl, by decide, by decide⟩ | 4, _ => ⟨rfl, by decide, by decide⟩ | 5, _ => ⟨rfl, by decide, by decide⟩ | j + 6, hj => absurd hj (by omega))
def tS129 : List Int := [110, 111, 116, 32, 111, 112, 101, 110, 32, 119]
theorem zs_129 {len : Nat} {s : Nat → Int32} {M : zk_M} (h : zOl0 len s M) : zSg M 129 (129 + 100) tS129 := h.str 129 10 tS129 (by decide) ⟨by decide, by decide⟩ rfl rfl rfl rfl rfl (by decide) (fun j hj => match j, hj with | 0, _ => ⟨rfl, by decide, by decide⟩ | 1, _ => ⟨rfl, by decide, by decide⟩ | 2, _ => ⟨rfl, by decide, by decide⟩ | 3, _ => ⟨rfl, by decide, by decide⟩ | 4, _ => ⟨rfl, by decide, by decide⟩ | 5, _ => ⟨rfl, by decide, by decide⟩ | 6, _ => ⟨rfl, by decide, by decide⟩ | 7, _ => ⟨rfl, by decide, by decide⟩ | 8, _ => ⟨rfl, by decide, by decide⟩ | 9, _ => ⟨rfl, by decide, by decide⟩ | j + 10, hj => absurd hj (by omega))
def tS130 : List Int := [32, 111, 114, 32, 99, 97, 114, 114, 105, 101, 100, 32, 109]
theorem zs_130 {len : Nat} {s : Nat → Int32} {M : zk_M} (h : zOl0 len s M) : zSg M 130 (130 + 100) tS130 := h.str 130 13 tS130 (by decide) ⟨by decide, by decide⟩ rfl rfl rfl rfl rfl (by decide) (fun j hj => match j, hj with | 0, _ => ⟨rfl, by decide, by decide⟩ | 1, _ => ⟨rfl, by decide, by decide⟩ | 2, _ => ⟨rfl, by decide, by decide⟩ | 3, _ => ⟨rfl, by decide, by decide⟩ | 4, _ => ⟨rfl, by decide, by decide⟩ | 5, _ => ⟨rfl, by decide, by decide⟩ | 6, _ => ⟨rfl, by decide, by decide⟩ | 7, _ => ⟨rfl, by decide, by decide⟩ | 8, _ => ⟨rfl, by decide, by decide⟩ | 9, _ => ⟨rfl, by decide, by decide⟩ | 10, _ => ⟨rfl, by decide, by decide⟩ | 11, _ => ⟨rfl, by decide, by decide⟩ | 12, _ => ⟨rfl, by decide, by decide⟩ | j + 13, hj => absurd hj (by omega))
def tS131 : List Int := [108, 101, 102, 116, 32, 109]
theorem zs_131 {len : Nat} {s : Nat → Int32} {M : zk_M} (h : zOl0 len s M) : zSg M 131 (131 + 100) tS131 := h.str 131 6 tS131 (by decide) ⟨by decide, by decide⟩ rfl rfl rfl rfl rfl (by decide) (fun j hj => match j, hj with | 0, _ => ⟨rfl, by decide, by decide⟩ | 1, _ => ⟨rfl, by decide, by decide⟩ | 2, _ => ⟨rfl, by decide, by decide⟩ | 3, _ => ⟨rfl, by decide, by decide⟩ | 4, _ => ⟨rfl, by decide, by decide⟩ | 5, _ => ⟨rfl, by decide, by decide⟩ | j + 6, hj => absurd hj (by omega))
def tS132 : List Int := [42, 50, 32, 62, 61, 32]
theorem zs_132 {len : Nat} {s : Nat → Int32} {M : zk_M} (h : zOl0 len s M) : zSg M 132 (132 + 100) tS132 := h.str 132 6 tS132 (by decide) ⟨by decide, by decide⟩ rfl rfl rfl rfl rfl (by decide) (fun j hj => match j, hj with | 0, _ => ⟨rfl, by decide, by decide⟩ | 1, _ => ⟨rfl, by decide, by decide⟩ | 2, _ => ⟨rfl, by decide, by decide⟩ | 3, _ => ⟨rfl, by decide, by decide⟩ | 4, _ => ⟨rfl, by decide, by decide⟩ | 5, _ => ⟨rfl, by decide, by decide⟩ | j + 6, hj => absurd hj (by omega))
def tS133 : List Int := [91, 98, 114, 101, 97, 107, 115, 32, 109]
theorem zs_133 {len : Nat} {s : Nat → Int32} {M : zk_M} (h : zOl0 len s M) : zSg M 133 (133 + 100) tS133 := h.str 133 9 tS133 (by decide) ⟨by decide, by decide⟩ rfl rfl rfl rfl rfl (by decide) (fun j hj => match j, hj with | 0, _ => ⟨rfl, by decide, by decide⟩ | 1, _ => ⟨rfl, by decide, by decide⟩ | 2, _ => ⟨rfl, by decide, by decide⟩ | 3, _ => ⟨rfl, by decide, by decide⟩ | 4, _ => ⟨rfl, by decide, by decide⟩ | 5, _ => ⟨rfl, by decide, by decide⟩ | 6, _ => ⟨rfl, by decide, by decide⟩ | 7, _ => ⟨rfl, by decide, by decide⟩ | 8, _ => ⟨rfl, by decide, by decide⟩ | j + 9, hj => absurd hj (by omega))
def tS99 : List Int := [60]
theorem zs_99 {len : Nat} {s : Nat → Int32} {M : zk_M} (h : zOl0 len s M) : zSg M 99 (99 + 100) tS99 := h.str 99 1 tS99 (by decide) ⟨by decide, by decide⟩ rfl rfl rfl rfl rfl (by decide) (fun j hj => match j, hj with | 0, _ => ⟨rfl, by decide, by decide⟩ | j + 1, hj => absurd hj (by omega))
def tS134 : List Int := [47, 51, 48, 32, 97, 110, 100, 32, 109, 105, 110, 117, 116, 101, 62]
theorem zs_134 {len : Nat} {s : Nat → Int32} {M : zk_M} (h : zOl0 len s M) : zSg M 134 (134 + 100) tS134 := h.str 134 15 tS134 (by decide) ⟨by decide, by decide⟩ rfl rfl rfl rfl rfl (by decide) (fun j hj => match j, hj with | 0, _ => ⟨rfl, by decide, by decide⟩ | 1, _ => ⟨rfl, by decide, by decide⟩ | 2, _ => ⟨rfl, by decide, by decide⟩ | 3, _ => ⟨rfl, by decide, by decide⟩ | 4, _ => ⟨rfl, by decide, by decide⟩ | 5, _ => ⟨rfl, by decide, by decide⟩ | 6, _ => ⟨rfl, by decide, by decide⟩ | 7, _ => ⟨rfl, by decide, by decide⟩ | 8, _ => ⟨rfl, by decide, by decide⟩ | 9, _ => ⟨rfl, by decide, by decide⟩ | 10, _ => ⟨rfl, by decide, by decide⟩ | 11, _ => ⟨rfl, by decide, by decide⟩ | 12, _ => ⟨rfl, by decide, by decide⟩ | 13, _ => ⟨rfl, by decide, by decide⟩ | 14, _ => ⟨rfl, by decide, by decide⟩ | j + 15, hj => absurd hj (by omega))
def tS135 : List Int := [47, 50, 93, 111, 114, 32, 109, 105, 110, 117, 116, 101, 47, 50, 42, 50, 61, 109, 105, 110, 117, 116, 101]
theorem zs_135 {len : Nat} {s : Nat → Int32} {M : zk_M} (h : zOl0 len s M) : zSg M 135 (135 + 100) tS135 := h.str 135 23 tS135 (by decide) ⟨by decide, by decide⟩ rfl rfl rfl rfl rfl (by decide) (fun j hj => match j, hj with | 0, _ => ⟨rfl, by decide, by decide⟩ | 1, _ => ⟨rfl, by decide, by decide⟩ | 2, _ => ⟨rfl, by decide, by decide⟩ | 3, _ => ⟨rfl, by decide, by decide⟩ | 4, _ => ⟨rfl, by decide, by decide⟩ | 5, _ => ⟨rfl, by decide, by decide⟩ | 6, _ => ⟨rfl, by decide, by decide⟩ | 7, _ => ⟨rfl, by decide, by decide⟩ | 8, _ => ⟨rfl, by decide, by decide⟩ | 9, _ => ⟨rfl, by decide, by decide⟩ | 10, _ => ⟨rfl, by decide, by decide⟩ | 11, _ => ⟨rfl, by decide, by decide⟩ | 12, _ => ⟨rfl, by decide, by decide⟩ | 13, _ => ⟨rfl, by decide, by decide⟩ | 14, _ => ⟨rfl, by decide, by decide⟩ | 15, _ => ⟨rfl, by decide, by decide⟩ | 16, _ => ⟨rfl, by decide, by decide⟩ | 17, _ => ⟨rfl, by decide, by decide⟩ | 18, _ => ⟨rfl, by decide, by decide⟩ | 19, _ => ⟨rfl, by decide, by decide⟩ | 20, _ => ⟨rfl, by decide, by decide⟩ | 21, _ => ⟨rfl, by decide, by decide⟩ | 22, _ => ⟨rfl, by decide, by decide⟩ | j + 23, hj => absurd hj (by omega))
def tS136 : List Int := [99, 97, 114, 114, 105, 101, 100, 32, 109]
theorem zs_136 {len : Nat} {s : Nat → Int32} {M : zk_M} (h : zOl0 len s M) : zSg M 136 (136 + 100) tS136 := h.str 136 9 tS136 (by decide) ⟨by decide, by decide⟩ rfl rfl rfl rfl rfl (by decide) (fun j hj => match j, hj with | 0, _ => ⟨rfl, by decide, by decide⟩ | 1, _ => ⟨rfl, by decide, by decide⟩ | 2, _ => ⟨rfl, by decide, by decide⟩ | 3, _ => ⟨rfl, by decide, by decide⟩ | 4, _ => ⟨rfl, by decide, by decide⟩ | 5, _ => ⟨rfl, by decide, by decide⟩ | 6, _ => ⟨rfl, by decide, by decide⟩ | 7, _ => ⟨rfl, by decide, by decide⟩ | 8, _ => ⟨rfl, by decide, by decide⟩ | j + 9, hj => absurd hj (by omega))
def tS137 : List Int := [47, 50, 42, 50, 61]
theorem zs_137 {len : Nat} {s : Nat → Int32} {M : zk_M} (h : zOl0 len s M) : zSg M 137 (137 + 100) tS137 := h.str 137 5 tS137 (by decide) ⟨by decide, by decide⟩ rfl rfl rfl rfl rfl (by decide) (fun j hj => match j, hj with | 0, _ => ⟨rfl, by decide, by decide⟩ | 1, _ => ⟨rfl, by decide, by decide⟩ | 2, _ => ⟨rfl, by decide, by decide⟩ | 3, _ => ⟨rfl, by decide, by decide⟩ | 4, _ => ⟨rfl, by decide, by decide⟩ | j + 5, hj => absurd hj (by omega))
theorem zr_93 : ("HeliographsLaw", 93, "peak p", 105) ∈ zk_sr := by decide +kernel
theorem zr_95 : ("HeliographsLaw", 95, " sun from ", 106) ∈ zk_sr := by decide +kernel
theorem zr_97 : ("HeliographsLaw", 97, " to ", 107) ∈ zk_sr := by decide +kernel
theorem zr_99 : ("HeliographsLaw", 99, " mirrors ", 108) ∈ zk_sr := by decide +kernel
theorem zr_101 : ("HeliographsLaw", 101, ";", 93) ∈ zk_sr := by decide +kernel
theorem zr_106 : ("HeliographsLaw", 106, "pass w", 109) ∈ zk_sr := by decide +kernel
theorem zr_108 : ("HeliographsLaw", 108, " between p", 110) ∈ zk_sr := by decide +kernel
theorem zr_110 : ("HeliographsLaw", 110, " and p", 111) ∈ zk_sr := by decide +kernel
theorem zr_112 : ("HeliographsLaw", 112, " far ", 112) ∈ zk_sr := by decide +kernel
theorem zr_114 : ("HeliographsLaw", 114, " ;\n", 113) ∈ zk_sr := by decide +kernel
theorem zr_119 : ("HeliographsLaw", 119, "cloud over w", 114) ∈ zk_sr := by decide +kernel
theorem zr_121 : ("HeliographsLaw", 121, " every ", 115) ∈ zk_sr := by decide +kernel
theorem zr_123 : ("HeliographsLaw", 123, " for ", 116) ∈ zk_sr := by decide +kernel
theorem zr_125 : ("HeliographsLaw", 125, " from ", 117) ∈ zk_sr := by decide +kernel
theorem zr_130 : ("HeliographsLaw", 130, "message m", 118) ∈ zk_sr := by decide +kernel
theorem zr_132 : ("HeliographsLaw", 132, " words ", 119) ∈ zk_sr := by decide +kernel
theorem zr_134 : ("HeliographsLaw", 134, " at p", 120) ∈ zk_sr := by decide +kernel
theorem zr_136 : ("HeliographsLaw", 136, " to p", 121) ∈ zk_sr := by decide +kernel
theorem zr_138 : ("HeliographsLaw", 138, " due ", 122) ∈ zk_sr := by decide +kernel
theorem zr_143 : ("HeliographsLaw", 143, "hold m", 123) ∈ zk_sr := by decide +kernel
theorem zr_145 : ("HeliographsLaw", 145, " when ", 124) ∈ zk_sr := by decide +kernel
theorem zr_35 : ("HeliographsLaw", 35, "minute<", 125) ∈ zk_sr := by decide +kernel
theorem zr_48 : ("HeliographsLaw", 48, "queue p", 126) ∈ zk_sr := by decide +kernel
theorem zr_50 : ("HeliographsLaw", 50, ">1", 127) ∈ zk_sr := by decide +kernel
theorem zr_52 : ("HeliographsLaw", 52, "open w", 128) ∈ zk_sr := by decide +kernel
theorem zr_54 : ("HeliographsLaw", 54, "not open w", 129) ∈ zk_sr := by decide +kernel
theorem zr_56 : ("HeliographsLaw", 56, " or carried m", 130) ∈ zk_sr := by decide +kernel
theorem zr_58 : ("HeliographsLaw", 58, "left m", 131) ∈ zk_sr := by decide +kernel
theorem zr_60 : ("HeliographsLaw", 60, "*2 >= ", 132) ∈ zk_sr := by decide +kernel
theorem zr_62 : ("HeliographsLaw", 62, "[breaks m", 133) ∈ zk_sr := by decide +kernel
theorem zr_64 : ("HeliographsLaw", 64, "<", 99) ∈ zk_sr := by decide +kernel
theorem zr_66 : ("HeliographsLaw", 66, "/30 and minute>", 134) ∈ zk_sr := by decide +kernel
theorem zr_68 : ("HeliographsLaw", 68, "/2]or minute/2*2=minute", 135) ∈ zk_sr := by decide +kernel
theorem zr_70 : ("HeliographsLaw", 70, "carried m", 136) ∈ zk_sr := by decide +kernel
theorem zr_72 : ("HeliographsLaw", 72, "/2*2=", 137) ∈ zk_sr := by decide +kernel
theorem zCap_le {q cap : Nat} (h1 : q ≤ 2000) (h2 : cap ≤ 4100) : zCap q cap ≤ 4100 := by unfold zCap; (repeat' split) <;> omega
section
variable {I : zk_MI} {kc ks : Nat} {Q : Option Value → zk_M → (Heap → Prop) → Prop} {pc : Nat} {L : List (Option Value)} {st : List Value} {M : zk_M} {a b cap idx : Nat} {t : List Int}
theorem gl_appS {s sb : Nat} {g : List Int} (hd : decode I.2.1 pc = .ok (.invokevirtual idx, 3)) (hw : Cond.methodLink I.1.cls idx yJ4_append_15ec4 ∈ zk_tg) (h : zSB M a b cap t) (hs : zSg M s sb g) (hs9 : s < M.2.1 ∧ sb < M.2.1 ∧ sb ≠ b) (hl : (t ++ g).length ≤ 2000) (hc : cap ≤ 4100) (hk : 1 ≤ kc ∧ 4100 ≤ ks) (hsum : (st.map fun v => v.category).sum ≤ 8) (hd1 : 6 ≤ d)
    (kk : ∀ M' b' cap', zSB M' a b' cap' (t ++ g) → cap' ≤ 4100 → zKp M M' a b b' → zk_Go l Γ I d (kc - 1) (ks - 4100) Q (pc + 3) L (.ref a :: st) M' F) : zk_Go l Γ I d kc ks Q pc L (.ref s :: .ref a :: st) M F :=
  gb_v (J := mJ4_append_15ec4) (d1 := d - 1) [.ref s] st hd rfl h.1.1 hw jzJ4_append_15ec4 rfl (Nat.le_of_ble_eq_true rfl) hsum (by omega) hk ((js_append h hs hs9 ⟨by omega, by omega⟩ (by omega)).le (Nat.le_refl _) (zCap_le hl hc)) (fun v M' hh => by
    obtain ⟨rfl, b', h1, h2⟩ := hh
    exact kk M' b' _ h1 (zCap_le hl hc) h2)
theorem gl_appI {x : Nat} (hd : decode I.2.1 pc = .ok (.invokevirtual idx, 3)) (hw : Cond.methodLink I.1.cls idx yJ4_append_bf812 ∈ zk_tg) (h : zSB M a b cap t) (hg : zDig M) (hn : 320 ≤ M.2.1) (hx : x < 1000) (hl : (t ++ zDec x).length ≤ 2000) (hc : cap ≤ 4100) (hk : 1 ≤ kc ∧ 4100 ≤ ks) (hsum : (st.map fun v => v.category).sum ≤ 8) (hd1 : 6 ≤ d)
    (kk : ∀ M' b' cap', zSB M' a b' cap' (t ++ zDec x) → cap' ≤ 4100 → zKp M M' a b b' → zk_Go l Γ I d (kc - 1) (ks - 4100) Q (pc + 3) L (.ref a :: st) M' F) : zk_Go l Γ I d kc ks Q pc L (.int (iZ (x : Int)) :: .ref a :: st) M F :=
  gb_v (J := mJ4_append_bf812) (d1 := d - 1) [.int (iZ (x : Int))] st hd rfl h.1.1 hw jzJ4_append_bf812 rfl (Nat.le_of_ble_eq_true rfl) hsum (by omega) hk ((js_appendI h hg hn hx ⟨by omega, by omega⟩ (by omega)).le (Nat.le_refl _) (zCap_le hl hc)) (fun v M' hh => by
    obtain ⟨rfl, b', h1, h2⟩ := hh
    exact kk M' b' _ h1 (zCap_le hl hc) h2)
end
theorem zOl.kp {M M1 M2 : zk_M} {a b b' : Nat} (h : zOl M M1) (e : zKp M1 M2 a b b') (ha : M.2.1 ≤ a ∧ M.2.1 ≤ b) : zOl M M2 ∧ M.2.1 ≤ b' := by
  obtain ⟨h1, h2, h3⟩ := h
  obtain ⟨e1, e2, e3, e4⟩ := e
  exact ⟨⟨by omega, fun c hc => (e2 c (by omega)).trans (h2 c hc), fun c hc => (e3 c (by omega) (by omega) (by omega)).trans (h3 c hc)⟩, by omega⟩
/-- the text of a test -/
def tTest (n k p w m : Nat) : List Int :=
  if k = 0 then tS125 ++ zDec n else if k = 1 then tS126 ++ zDec p ++ tS127 else if k = 2 then tS128 ++ zDec w else if k = 3 then tS129 ++ zDec w ++ tS130 ++ zDec m
  else if k = 4 then tS131 ++ zDec m ++ tS132 ++ zDec n else if k = 5 then tS133 ++ zDec m ++ tS99 ++ zDec n ++ tS134 ++ zDec n ++ tS135 else if k = 6 then tS136 ++ zDec m else zDec n ++ tS137 ++ zDec n
theorem zDec_le (x : Nat) : (zDec x).length ≤ 3 := by rw [zDec_len]; (repeat' split) <;> omega
theorem zl_test_0 {len : Nat} {s : Nat → Int32} {M : zk_M} {q n p w m : Nat} (hO : zOl0 len s M) (hq9 : q < M.2.1) (hq1 : M.1 q = (100, 6)) (hv1 : M.2.2 q 1 = .int (iZ 0)) (hv2 : M.2.2 q 2 = .int (iZ (n : Int))) (hvp : M.2.2 q 3 = .int (iZ (p : Int))) (hvw : M.2.2 q 4 = .int (iZ (w : Int))) (hvm : M.2.2 q 5 = .int (iZ (m : Int))) (hb : n < 1000 ∧ p < 1000 ∧ w < 1000 ∧ m < 1000) (hd : 8 ≤ d) : zDo l Γ mL_test d 12 50000 [.ref q] M F (fun v M' => ∃ x : Nat, v = some (.ref x) ∧ M.2.1 ≤ x ∧ zSg M' x (x + 1) (tTest n 0 p w m) ∧ zOl M M' ∧ x + 1 < M'.2.1) := by
  intro Q hq
  have dn := zDec_le n
  have dp := zDec_le p
  have dw := zDec_le w
  have dm := zDec_le m
  have h320 := hO.1
  refine gz_aload_n dL_test_0 rfl ?_
  refine zz_iconst dL_test_1 ?_
  refine gz_iald (n := 2) dL_test_2 hq1 rfl (by omega) hv2 ?_
  refine gz_istore_n dL_test_3 (Nat.le_of_ble_eq_true rfl) rfl ?_
  refine gz_aload_n dL_test_4 rfl ?_
  refine zz_iconst dL_test_5 ?_
  refine gz_iald (n := 1) dL_test_6 hq1 rfl (by omega) hv1 ?_
  refine zz_tsw (tgt := 48) dL_test_7 (by omega) (by decide) (by decide) rfl rfl ?_
  refine gz_newSB dL_test_48 dL_test_51 dL_test_52 wc_HeliographsLaw_32 wm_HeliographsLaw_34 hO.1 (Nat.le_of_ble_eq_true rfl) ⟨by omega, by omega⟩ (by omega) (fun M0 B0 n0 o0 => ?_)
  have O0 := hO.ol o0
  have c0 : 16 ≤ 4100 := by omega
  have w0 : M.2.1 ≤ M.2.1 + 1 := by omega
  refine gz_ldcS (q := 125) dL_test_55 zr_35 (by decide) ?_
  refine gl_appS (s := 125) (sb := 125 + 100) dL_test_57 wm_HeliographsLaw_37 B0 (zs_125 O0) ⟨by have := o0.1; omega, by have := o0.1; omega, by omega⟩ (by simp only [List.length_append, List.length_nil]; (simp (decide := true) only [List.length_cons, List.length_nil, tS125]) <;> omega) c0 ⟨by omega, by omega⟩ (Nat.le_of_ble_eq_true rfl) (by omega) (fun M1 b1 x1 B1 c1 k1 => ?_)
  obtain ⟨o1, w1⟩ := o0.kp k1 ⟨Nat.le_refl _, w0⟩
  have O1 := hO.ol o1
  refine gz_iload_n dL_test_60 rfl ?_
  refine gl_appI dL_test_61 wm_HeliographsLaw_41 B1 O1.dig O1.1 (by omega) (by simp only [List.length_append, List.length_nil]; (try simp (decide := true) only [List.length_cons, List.length_nil, tS125]) <;> omega) c1 ⟨by omega, by omega⟩ (Nat.le_of_ble_eq_true rfl) (by omega) (fun M2 b2 x2 B2 c2 k2 => ?_)
  obtain ⟨o2, w2⟩ := o1.kp k2 ⟨Nat.le_refl _, w1⟩
  have O2 := hO.ol o2
  refine gb_v (J := mJ4_toString_0e30d) (d1 := d - 1) [] _ dL_test_64 rfl B2.1.1 wm_HeliographsLaw_44 jzJ4_toString_0e30d rfl (Nat.le_of_ble_eq_true rfl) (Nat.le_of_ble_eq_true rfl) (by omega) ⟨by omega, by simp only [List.length_append, List.length_nil]; (simp (decide := true) only [List.length_cons, List.length_nil, tS125]) <;> omega⟩ (js_toString B2 O2.1 (by omega)) (fun v M9 hh => ?_)
  obtain ⟨rfl, g1, g2, g3⟩ := hh
  refine gz_areturn dL_test_67 rfl (Or.inl ⟨_, rfl⟩) ?_
  refine hq _ M9 ⟨M2.2.1, rfl, o2.1, ?_, o2.trans g3, (by show M2.2.1 + 1 < M9.2.1; rw [g2]; exact Nat.lt_succ_self _)⟩
  rw [List.nil_append] at g1
  exact g1
theorem zl_test_1 {len : Nat} {s : Nat → Int32} {M : zk_M} {q n p w m : Nat} (hO : zOl0 len s M) (hq9 : q < M.2.1) (hq1 : M.1 q = (100, 6)) (hv1 : M.2.2 q 1 = .int (iZ 1)) (hv2 : M.2.2 q 2 = .int (iZ (n : Int))) (hvp : M.2.2 q 3 = .int (iZ (p : Int))) (hvw : M.2.2 q 4 = .int (iZ (w : Int))) (hvm : M.2.2 q 5 = .int (iZ (m : Int))) (hb : n < 1000 ∧ p < 1000 ∧ w < 1000 ∧ m < 1000) (hd : 8 ≤ d) : zDo l Γ mL_test d 12 50000 [.ref q] M F (fun v M' => ∃ x : Nat, v = some (.ref x) ∧ M.2.1 ≤ x ∧ zSg M' x (x + 1) (tTest n 1 p w m) ∧ zOl M M' ∧ x + 1 < M'.2.1) := by
  intro Q hq
  have dn := zDec_le n
  have dp := zDec_le p
  have dw := zDec_le w
  have dm := zDec_le m
  have h320 := hO.1
  refine gz_aload_n dL_test_0 rfl ?_
  refine zz_iconst dL_test_1 ?_
  refine gz_iald (n := 2) dL_test_2 hq1 rfl (by omega) hv2 ?_
  refine gz_istore_n dL_test_3 (Nat.le_of_ble_eq_true rfl) rfl ?_
  refine gz_aload_n dL_test_4 rfl ?_
  refine zz_iconst dL_test_5 ?_
  refine gz_iald (n := 1) dL_test_6 hq1 rfl (by omega) hv1 ?_
  refine zz_tsw (tgt := 68) dL_test_7 (by omega) (by decide) (by decide) rfl rfl ?_
  refine gz_newSB dL_test_68 dL_test_71 dL_test_72 wc_HeliographsLaw_32 wm_HeliographsLaw_34 hO.1 (Nat.le_of_ble_eq_true rfl) ⟨by omega, by omega⟩ (by omega) (fun M0 B0 n0 o0 => ?_)
  have O0 := hO.ol o0
  have c0 : 16 ≤ 4100 := by omega
  have w0 : M.2.1 ≤ M.2.1 + 1 := by omega
  refine gz_ldcS (q := 126) dL_test_75 zr_48 (by decide) ?_
  refine gl_appS (s := 126) (sb := 126 + 100) dL_test_77 wm_HeliographsLaw_37 B0 (zs_126 O0) ⟨by have := o0.1; omega, by have := o0.1; omega, by omega⟩ (by simp only [List.length_append, List.length_nil]; (simp (decide := true) only [List.length_cons, List.length_nil, tS126]) <;> omega) c0 ⟨by omega, by omega⟩ (Nat.le_of_ble_eq_true rfl) (by omega) (fun M1 b1 x1 B1 c1 k1 => ?_)
  obtain ⟨o1, w1⟩ := o0.kp k1 ⟨Nat.le_refl _, w0⟩
  have O1 := hO.ol o1
  refine gz_aload_n dL_test_80 rfl ?_
  refine zz_iconst dL_test_81 ?_
  refine gz_iald (n := 3) dL_test_82 ((o1.2.1 q hq9).trans hq1) rfl (by omega) ((congrFun (o1.2.2 q hq9) 3).trans hvp) ?_
  refine gl_appI dL_test_83 wm_HeliographsLaw_41 B1 O1.dig O1.1 (by omega) (by simp only [List.length_append, List.length_nil]; (try simp (decide := true) only [List.length_cons, List.length_nil, tS126]) <;> omega) c1 ⟨by omega, by omega⟩ (Nat.le_of_ble_eq_true rfl) (by omega) (fun M2 b2 x2 B2 c2 k2 => ?_)
  obtain ⟨o2, w2⟩ := o1.kp k2 ⟨Nat.le_refl _, w1⟩
  have O2 := hO.ol o2
  refine gz_ldcS (q := 127) dL_test_86 zr_50 (by decide) ?_
  refine gl_appS (s := 127) (sb := 127 + 100) dL_test_88 wm_HeliographsLaw_37 B2 (zs_127 O2) ⟨by have := o2.1; omega, by have := o2.1; omega, by omega⟩ (by simp only [List.length_append, List.length_nil]; (simp (decide := true) only [List.length_cons, List.length_nil, tS126, tS127]) <;> omega) c2 ⟨by omega, by omega⟩ (Nat.le_of_ble_eq_true rfl) (by omega) (fun M3 b3 x3 B3 c3 k3 => ?_)
  obtain ⟨o3, w3⟩ := o2.kp k3 ⟨Nat.le_refl _, w2⟩
  have O3 := hO.ol o3
  refine gb_v (J := mJ4_toString_0e30d) (d1 := d - 1) [] _ dL_test_91 rfl B3.1.1 wm_HeliographsLaw_44 jzJ4_toString_0e30d rfl (Nat.le_of_ble_eq_true rfl) (Nat.le_of_ble_eq_true rfl) (by omega) ⟨by omega, by simp only [List.length_append, List.length_nil]; (simp (decide := true) only [List.length_cons, List.length_nil, tS126, tS127]) <;> omega⟩ (js_toString B3 O3.1 (by omega)) (fun v M9 hh => ?_)
  obtain ⟨rfl, g1, g2, g3⟩ := hh
  refine gz_areturn dL_test_94 rfl (Or.inl ⟨_, rfl⟩) ?_
  refine hq _ M9 ⟨M3.2.1, rfl, o3.1, ?_, o3.trans g3, (by show M3.2.1 + 1 < M9.2.1; rw [g2]; exact Nat.lt_succ_self _)⟩
  rw [List.nil_append] at g1
  exact g1
theorem zl_test_2 {len : Nat} {s : Nat → Int32} {M : zk_M} {q n p w m : Nat} (hO : zOl0 len s M) (hq9 : q < M.2.1) (hq1 : M.1 q = (100, 6)) (hv1 : M.2.2 q 1 = .int (iZ 2)) (hv2 : M.2.2 q 2 = .int (iZ (n : Int))) (hvp : M.2.2 q 3 = .int (iZ (p : Int))) (hvw : M.2.2 q 4 = .int (iZ (w : Int))) (hvm : M.2.2 q 5 = .int (iZ (m : Int))) (hb : n < 1000 ∧ p < 1000 ∧ w < 1000 ∧ m < 1000) (hd : 8 ≤ d) : zDo l Γ mL_test d 12 50000 [.ref q] M F (fun v M' => ∃ x : Nat, v = some (.ref x) ∧ M.2.1 ≤ x ∧ zSg M' x (x + 1) (tTest n 2 p w m) ∧ zOl M M' ∧ x + 1 < M'.2.1) := by
  intro Q hq
  have dn := zDec_le n
  have dp := zDec_le p
  have dw := zDec_le w
  have dm := zDec_le m
  have h320 := hO.1
  refine gz_aload_n dL_test_0 rfl ?_
  refine zz_iconst dL_test_1 ?_
  refine gz_iald (n := 2) dL_test_2 hq1 rfl (by omega) hv2 ?_
  refine gz_istore_n dL_test_3 (Nat.le_of_ble_eq_true rfl) rfl ?_
  refine gz_aload_n dL_test_4 rfl ?_
  refine zz_iconst dL_test_5 ?_
  refine gz_iald (n := 1) dL_test_6 hq1 rfl (by omega) hv1 ?_
  refine zz_tsw (tgt := 95) dL_test_7 (by omega) (by decide) (by decide) rfl rfl ?_
  refine gz_newSB dL_test_95 dL_test_98 dL_test_99 wc_HeliographsLaw_32 wm_HeliographsLaw_34 hO.1 (Nat.le_of_ble_eq_true rfl) ⟨by omega, by omega⟩ (by omega) (fun M0 B0 n0 o0 => ?_)
  have O0 := hO.ol o0
  have c0 : 16 ≤ 4100 := by omega
  have w0 : M.2.1 ≤ M.2.1 + 1 := by omega
  refine gz_ldcS (q := 128) dL_test_102 zr_52 (by decide) ?_
  refine gl_appS (s := 128) (sb := 128 + 100) dL_test_104 wm_HeliographsLaw_37 B0 (zs_128 O0) ⟨by have := o0.1; omega, by have := o0.1; omega, by omega⟩ (by simp only [List.length_append, List.length_nil]; (simp (decide := true) only [List.length_cons, List.length_nil, tS128]) <;> omega) c0 ⟨by omega, by omega⟩ (Nat.le_of_ble_eq_true rfl) (by omega) (fun M1 b1 x1 B1 c1 k1 => ?_)
  obtain ⟨o1, w1⟩ := o0.kp k1 ⟨Nat.le_refl _, w0⟩
  have O1 := hO.ol o1
  refine gz_aload_n dL_test_107 rfl ?_
  refine zz_iconst dL_test_108 ?_
  refine gz_iald (n := 4) dL_test_109 ((o1.2.1 q hq9).trans hq1) rfl (by omega) ((congrFun (o1.2.2 q hq9) 4).trans hvw) ?_
  refine gl_appI dL_test_110 wm_HeliographsLaw_41 B1 O1.dig O1.1 (by omega) (by simp only [List.length_append, List.length_nil]; (try simp (decide := true) only [List.length_cons, List.length_nil, tS128]) <;> omega) c1 ⟨by omega, by omega⟩ (Nat.le_of_ble_eq_true rfl) (by omega) (fun M2 b2 x2 B2 c2 k2 => ?_)
  obtain ⟨o2, w2⟩ := o1.kp k2 ⟨Nat.le_refl _, w1⟩
  have O2 := hO.ol o2
  refine gb_v (J := mJ4_toString_0e30d) (d1 := d - 1) [] _ dL_test_113 rfl B2.1.1 wm_HeliographsLaw_44 jzJ4_toString_0e30d rfl (Nat.le_of_ble_eq_true rfl) (Nat.le_of_ble_eq_true rfl) (by omega) ⟨by omega, by simp only [List.length_append, List.length_nil]; (simp (decide := true) only [List.length_cons, List.length_nil, tS128]) <;> omega⟩ (js_toString B2 O2.1 (by omega)) (fun v M9 hh => ?_)
  obtain ⟨rfl, g1, g2, g3⟩ := hh
  refine gz_areturn dL_test_116 rfl (Or.inl ⟨_, rfl⟩) ?_
  refine hq _ M9 ⟨M2.2.1, rfl, o2.1, ?_, o2.trans g3, (by show M2.2.1 + 1 < M9.2.1; rw [g2]; exact Nat.lt_succ_self _)⟩
  rw [List.nil_append] at g1
  exact g1
theorem zl_test_3 {len : Nat} {s : Nat → Int32} {M : zk_M} {q n p w m : Nat} (hO : zOl0 len s M) (hq9 : q < M.2.1) (hq1 : M.1 q = (100, 6)) (hv1 : M.2.2 q 1 = .int (iZ 3)) (hv2 : M.2.2 q 2 = .int (iZ (n : Int))) (hvp : M.2.2 q 3 = .int (iZ (p : Int))) (hvw : M.2.2 q 4 = .int (iZ (w : Int))) (hvm : M.2.2 q 5 = .int (iZ (m : Int))) (hb : n < 1000 ∧ p < 1000 ∧ w < 1000 ∧ m < 1000) (hd : 8 ≤ d) : zDo l Γ mL_test d 12 50000 [.ref q] M F (fun v M' => ∃ x : Nat, v = some (.ref x) ∧ M.2.1 ≤ x ∧ zSg M' x (x + 1) (tTest n 3 p w m) ∧ zOl M M' ∧ x + 1 < M'.2.1) := by
  intro Q hq
  have dn := zDec_le n
  have dp := zDec_le p
  have dw := zDec_le w
  have dm := zDec_le m
  have h320 := hO.1
  refine gz_aload_n dL_test_0 rfl ?_
  refine zz_iconst dL_test_1 ?_
  refine gz_iald (n := 2) dL_test_2 hq1 rfl (by omega) hv2 ?_
  refine gz_istore_n dL_test_3 (Nat.le_of_ble_eq_true rfl) rfl ?_
  refine gz_aload_n dL_test_4 rfl ?_
  refine zz_iconst dL_test_5 ?_
  refine gz_iald (n := 1) dL_test_6 hq1 rfl (by omega) hv1 ?_
  refine zz_tsw (tgt := 117) dL_test_7 (by omega) (by decide) (by decide) rfl rfl ?_
  refine gz_newSB dL_test_117 dL_test_120 dL_test_121 wc_HeliographsLaw_32 wm_HeliographsLaw_34 hO.1 (Nat.le_of_ble_eq_true rfl) ⟨by omega, by omega⟩ (by omega) (fun M0 B0 n0 o0 => ?_)
  have O0 := hO.ol o0
  have c0 : 16 ≤ 4100 := by omega
  have w0 : M.2.1 ≤ M.2.1 + 1 := by omega
  refine gz_ldcS (q := 129) dL_test_124 zr_54 (by decide) ?_
  refine gl_appS (s := 129) (sb := 129 + 100) dL_test_126 wm_HeliographsLaw_37 B0 (zs_129 O0) ⟨by have := o0.1; omega, by have := o0.1; omega, by omega⟩ (by simp only [List.length_append, List.length_nil]; (simp (decide := true) only [List.length_cons, List.length_nil, tS129]) <;> omega) c0 ⟨by omega, by omega⟩ (Nat.le_of_ble_eq_true rfl) (by omega) (fun M1 b1 x1 B1 c1 k1 => ?_)
  obtain ⟨o1, w1⟩ := o0.kp k1 ⟨Nat.le_refl _, w0⟩
  have O1 := hO.ol o1
  refine gz_aload_n dL_test_129 rfl ?_
  refine zz_iconst dL_test_130 ?_
  refine gz_iald (n := 4) dL_test_131 ((o1.2.1 q hq9).trans hq1) rfl (by omega) ((congrFun (o1.2.2 q hq9) 4).trans hvw) ?_
  refine gl_appI dL_test_132 wm_HeliographsLaw_41 B1 O1.dig O1.1 (by omega) (by simp only [List.length_append, List.length_nil]; (try simp (decide := true) only [List.length_cons, List.length_nil, tS129]) <;> omega) c1 ⟨by omega, by omega⟩ (Nat.le_of_ble_eq_true rfl) (by omega) (fun M2 b2 x2 B2 c2 k2 => ?_)
  obtain ⟨o2, w2⟩ := o1.kp k2 ⟨Nat.le_refl _, w1⟩
  have O2 := hO.ol o2
  refine gz_ldcS (q := 130) dL_test_135 zr_56 (by decide) ?_
  refine gl_appS (s := 130) (sb := 130 + 100) dL_test_137 wm_HeliographsLaw_37 B2 (zs_130 O2) ⟨by have := o2.1; omega, by have := o2.1; omega, by omega⟩ (by simp only [List.length_append, List.length_nil]; (simp (decide := true) only [List.length_cons, List.length_nil, tS129, tS130]) <;> omega) c2 ⟨by omega, by omega⟩ (Nat.le_of_ble_eq_true rfl) (by omega) (fun M3 b3 x3 B3 c3 k3 => ?_)
  obtain ⟨o3, w3⟩ := o2.kp k3 ⟨Nat.le_refl _, w2⟩
  have O3 := hO.ol o3
  refine gz_aload_n dL_test_140 rfl ?_
  refine zz_iconst dL_test_141 ?_
  refine gz_iald (n := 5) dL_test_142 ((o3.2.1 q hq9).trans hq1) rfl (by omega) ((congrFun (o3.2.2 q hq9) 5).trans hvm) ?_
  refine gl_appI dL_test_143 wm_HeliographsLaw_41 B3 O3.dig O3.1 (by omega) (by simp only [List.length_append, List.length_nil]; (try simp (decide := true) only [List.length_cons, List.length_nil, tS129, tS130]) <;> omega) c3 ⟨by omega, by omega⟩ (Nat.le_of_ble_eq_true rfl) (by omega) (fun M4 b4 x4 B4 c4 k4 => ?_)
  obtain ⟨o4, w4⟩ := o3.kp k4 ⟨Nat.le_refl _, w3⟩
  have O4 := hO.ol o4
  refine gb_v (J := mJ4_toString_0e30d) (d1 := d - 1) [] _ dL_test_146 rfl B4.1.1 wm_HeliographsLaw_44 jzJ4_toString_0e30d rfl (Nat.le_of_ble_eq_true rfl) (Nat.le_of_ble_eq_true rfl) (by omega) ⟨by omega, by simp only [List.length_append, List.length_nil]; (simp (decide := true) only [List.length_cons, List.length_nil, tS129, tS130]) <;> omega⟩ (js_toString B4 O4.1 (by omega)) (fun v M9 hh => ?_)
  obtain ⟨rfl, g1, g2, g3⟩ := hh
  refine gz_areturn dL_test_149 rfl (Or.inl ⟨_, rfl⟩) ?_
  refine hq _ M9 ⟨M4.2.1, rfl, o4.1, ?_, o4.trans g3, (by show M4.2.1 + 1 < M9.2.1; rw [g2]; exact Nat.lt_succ_self _)⟩
  rw [List.nil_append] at g1
  exact g1
theorem zl_test_4 {len : Nat} {s : Nat → Int32} {M : zk_M} {q n p w m : Nat} (hO : zOl0 len s M) (hq9 : q < M.2.1) (hq1 : M.1 q = (100, 6)) (hv1 : M.2.2 q 1 = .int (iZ 4)) (hv2 : M.2.2 q 2 = .int (iZ (n : Int))) (hvp : M.2.2 q 3 = .int (iZ (p : Int))) (hvw : M.2.2 q 4 = .int (iZ (w : Int))) (hvm : M.2.2 q 5 = .int (iZ (m : Int))) (hb : n < 1000 ∧ p < 1000 ∧ w < 1000 ∧ m < 1000) (hd : 8 ≤ d) : zDo l Γ mL_test d 12 50000 [.ref q] M F (fun v M' => ∃ x : Nat, v = some (.ref x) ∧ M.2.1 ≤ x ∧ zSg M' x (x + 1) (tTest n 4 p w m) ∧ zOl M M' ∧ x + 1 < M'.2.1) := by
  intro Q hq
  have dn := zDec_le n
  have dp := zDec_le p
  have dw := zDec_le w
  have dm := zDec_le m
  have h320 := hO.1
  refine gz_aload_n dL_test_0 rfl ?_
  refine zz_iconst dL_test_1 ?_
  refine gz_iald (n := 2) dL_test_2 hq1 rfl (by omega) hv2 ?_
  refine gz_istore_n dL_test_3 (Nat.le_of_ble_eq_true rfl) rfl ?_
  refine gz_aload_n dL_test_4 rfl ?_
  refine zz_iconst dL_test_5 ?_
  refine gz_iald (n := 1) dL_test_6 hq1 rfl (by omega) hv1 ?_
  refine zz_tsw (tgt := 150) dL_test_7 (by omega) (by decide) (by decide) rfl rfl ?_
  refine gz_newSB dL_test_150 dL_test_153 dL_test_154 wc_HeliographsLaw_32 wm_HeliographsLaw_34 hO.1 (Nat.le_of_ble_eq_true rfl) ⟨by omega, by omega⟩ (by omega) (fun M0 B0 n0 o0 => ?_)
  have O0 := hO.ol o0
  have c0 : 16 ≤ 4100 := by omega
  have w0 : M.2.1 ≤ M.2.1 + 1 := by omega
  refine gz_ldcS (q := 131) dL_test_157 zr_58 (by decide) ?_
  refine gl_appS (s := 131) (sb := 131 + 100) dL_test_159 wm_HeliographsLaw_37 B0 (zs_131 O0) ⟨by have := o0.1; omega, by have := o0.1; omega, by omega⟩ (by simp only [List.length_append, List.length_nil]; (simp (decide := true) only [List.length_cons, List.length_nil, tS131]) <;> omega) c0 ⟨by omega, by omega⟩ (Nat.le_of_ble_eq_true rfl) (by omega) (fun M1 b1 x1 B1 c1 k1 => ?_)
  obtain ⟨o1, w1⟩ := o0.kp k1 ⟨Nat.le_refl _, w0⟩
  have O1 := hO.ol o1
  refine gz_aload_n dL_test_162 rfl ?_
  refine zz_iconst dL_test_163 ?_
  refine gz_iald (n := 5) dL_test_164 ((o1.2.1 q hq9).trans hq1) rfl (by omega) ((congrFun (o1.2.2 q hq9) 5).trans hvm) ?_
  refine gl_appI dL_test_165 wm_HeliographsLaw_41 B1 O1.dig O1.1 (by omega) (by simp only [List.length_append, List.length_nil]; (try simp (decide := true) only [List.length_cons, List.length_nil, tS131]) <;> omega) c1 ⟨by omega, by omega⟩ (Nat.le_of_ble_eq_true rfl) (by omega) (fun M2 b2 x2 B2 c2 k2 => ?_)
  obtain ⟨o2, w2⟩ := o1.kp k2 ⟨Nat.le_refl _, w1⟩
  have O2 := hO.ol o2
  refine gz_ldcS (q := 132) dL_test_168 zr_60 (by decide) ?_
  refine gl_appS (s := 132) (sb := 132 + 100) dL_test_170 wm_HeliographsLaw_37 B2 (zs_132 O2) ⟨by have := o2.1; omega, by have := o2.1; omega, by omega⟩ (by simp only [List.length_append, List.length_nil]; (simp (decide := true) only [List.length_cons, List.length_nil, tS131, tS132]) <;> omega) c2 ⟨by omega, by omega⟩ (Nat.le_of_ble_eq_true rfl) (by omega) (fun M3 b3 x3 B3 c3 k3 => ?_)
  obtain ⟨o3, w3⟩ := o2.kp k3 ⟨Nat.le_refl _, w2⟩
  have O3 := hO.ol o3
  refine gz_iload_n dL_test_173 rfl ?_
  refine gl_appI dL_test_174 wm_HeliographsLaw_41 B3 O3.dig O3.1 (by omega) (by simp only [List.length_append, List.length_nil]; (try simp (decide := true) only [List.length_cons, List.length_nil, tS131, tS132]) <;> omega) c3 ⟨by omega, by omega⟩ (Nat.le_of_ble_eq_true rfl) (by omega) (fun M4 b4 x4 B4 c4 k4 => ?_)
  obtain ⟨o4, w4⟩ := o3.kp k4 ⟨Nat.le_refl _, w3⟩
  have O4 := hO.ol o4
  refine gb_v (J := mJ4_toString_0e30d) (d1 := d - 1) [] _ dL_test_177 rfl B4.1.1 wm_HeliographsLaw_44 jzJ4_toString_0e30d rfl (Nat.le_of_ble_eq_true rfl) (Nat.le_of_ble_eq_true rfl) (by omega) ⟨by omega, by simp only [List.length_append, List.length_nil]; (simp (decide := true) only [List.length_cons, List.length_nil, tS131, tS132]) <;> omega⟩ (js_toString B4 O4.1 (by omega)) (fun v M9 hh => ?_)
  obtain ⟨rfl, g1, g2, g3⟩ := hh
  refine gz_areturn dL_test_180 rfl (Or.inl ⟨_, rfl⟩) ?_
  refine hq _ M9 ⟨M4.2.1, rfl, o4.1, ?_, o4.trans g3, (by show M4.2.1 + 1 < M9.2.1; rw [g2]; exact Nat.lt_succ_self _)⟩
  rw [List.nil_append] at g1
  exact g1
theorem zl_test_5 {len : Nat} {s : Nat → Int32} {M : zk_M} {q n p w m : Nat} (hO : zOl0 len s M) (hq9 : q < M.2.1) (hq1 : M.1 q = (100, 6)) (hv1 : M.2.2 q 1 = .int (iZ 5)) (hv2 : M.2.2 q 2 = .int (iZ (n : Int))) (hvp : M.2.2 q 3 = .int (iZ (p : Int))) (hvw : M.2.2 q 4 = .int (iZ (w : Int))) (hvm : M.2.2 q 5 = .int (iZ (m : Int))) (hb : n < 1000 ∧ p < 1000 ∧ w < 1000 ∧ m < 1000) (hd : 8 ≤ d) : zDo l Γ mL_test d 12 50000 [.ref q] M F (fun v M' => ∃ x : Nat, v = some (.ref x) ∧ M.2.1 ≤ x ∧ zSg M' x (x + 1) (tTest n 5 p w m) ∧ zOl M M' ∧ x + 1 < M'.2.1) := by
  intro Q hq
  have dn := zDec_le n
  have dp := zDec_le p
  have dw := zDec_le w
  have dm := zDec_le m
  have h320 := hO.1
  refine gz_aload_n dL_test_0 rfl ?_
  refine zz_iconst dL_test_1 ?_
  refine gz_iald (n := 2) dL_test_2 hq1 rfl (by omega) hv2 ?_
  refine gz_istore_n dL_test_3 (Nat.le_of_ble_eq_true rfl) rfl ?_
  refine gz_aload_n dL_test_4 rfl ?_
  refine zz_iconst dL_test_5 ?_
  refine gz_iald (n := 1) dL_test_6 hq1 rfl (by omega) hv1 ?_
  refine zz_tsw (tgt := 181) dL_test_7 (by omega) (by decide) (by decide) rfl rfl ?_
  refine gz_newSB dL_test_181 dL_test_184 dL_test_185 wc_HeliographsLaw_32 wm_HeliographsLaw_34 hO.1 (Nat.le_of_ble_eq_true rfl) ⟨by omega, by omega⟩ (by omega) (fun M0 B0 n0 o0 => ?_)
  have O0 := hO.ol o0
  have c0 : 16 ≤ 4100 := by omega
  have w0 : M.2.1 ≤ M.2.1 + 1 := by omega
  refine gz_ldcS (q := 133) dL_test_188 zr_62 (by decide) ?_
  refine gl_appS (s := 133) (sb := 133 + 100) dL_test_190 wm_HeliographsLaw_37 B0 (zs_133 O0) ⟨by have := o0.1; omega, by have := o0.1; omega, by omega⟩ (by simp only [List.length_append, List.length_nil]; (simp (decide := true) only [List.length_cons, List.length_nil, tS133]) <;> omega) c0 ⟨by omega, by omega⟩ (Nat.le_of_ble_eq_true rfl) (by omega) (fun M1 b1 x1 B1 c1 k1 => ?_)
  obtain ⟨o1, w1⟩ := o0.kp k1 ⟨Nat.le_refl _, w0⟩
  have O1 := hO.ol o1
  refine gz_aload_n dL_test_193 rfl ?_
  refine zz_iconst dL_test_194 ?_
  refine gz_iald (n := 5) dL_test_195 ((o1.2.1 q hq9).trans hq1) rfl (by omega) ((congrFun (o1.2.2 q hq9) 5).trans hvm) ?_
  refine gl_appI dL_test_196 wm_HeliographsLaw_41 B1 O1.dig O1.1 (by omega) (by simp only [List.length_append, List.length_nil]; (try simp (decide := true) only [List.length_cons, List.length_nil, tS133]) <;> omega) c1 ⟨by omega, by omega⟩ (Nat.le_of_ble_eq_true rfl) (by omega) (fun M2 b2 x2 B2 c2 k2 => ?_)
  obtain ⟨o2, w2⟩ := o1.kp k2 ⟨Nat.le_refl _, w1⟩
  have O2 := hO.ol o2
  refine gz_ldcS (q := 99) dL_test_199 zr_64 (by decide) ?_
  refine gl_appS (s := 99) (sb := 99 + 100) dL_test_201 wm_HeliographsLaw_37 B2 (zs_99 O2) ⟨by have := o2.1; omega, by have := o2.1; omega, by omega⟩ (by simp only [List.length_append, List.length_nil]; (simp (decide := true) only [List.length_cons, List.length_nil, tS133, tS99]) <;> omega) c2 ⟨by omega, by omega⟩ (Nat.le_of_ble_eq_true rfl) (by omega) (fun M3 b3 x3 B3 c3 k3 => ?_)
  obtain ⟨o3, w3⟩ := o2.kp k3 ⟨Nat.le_refl _, w2⟩
  have O3 := hO.ol o3
  refine gz_iload_n dL_test_204 rfl ?_
  refine gl_appI dL_test_205 wm_HeliographsLaw_41 B3 O3.dig O3.1 (by omega) (by simp only [List.length_append, List.length_nil]; (try simp (decide := true) only [List.length_cons, List.length_nil, tS133, tS99]) <;> omega) c3 ⟨by omega, by omega⟩ (Nat.le_of_ble_eq_true rfl) (by omega) (fun M4 b4 x4 B4 c4 k4 => ?_)
  obtain ⟨o4, w4⟩ := o3.kp k4 ⟨Nat.le_refl _, w3⟩
  have O4 := hO.ol o4
  refine gz_ldcS (q := 134) dL_test_208 zr_66 (by decide) ?_
  refine gl_appS (s := 134) (sb := 134 + 100) dL_test_210 wm_HeliographsLaw_37 B4 (zs_134 O4) ⟨by have := o4.1; omega, by have := o4.1; omega, by omega⟩ (by simp only [List.length_append, List.length_nil]; (simp (decide := true) only [List.length_cons, List.length_nil, tS133, tS134, tS99]) <;> omega) c4 ⟨by omega, by omega⟩ (Nat.le_of_ble_eq_true rfl) (by omega) (fun M5 b5 x5 B5 c5 k5 => ?_)
  obtain ⟨o5, w5⟩ := o4.kp k5 ⟨Nat.le_refl _, w4⟩
  have O5 := hO.ol o5
  refine gz_iload_n dL_test_213 rfl ?_
  refine gl_appI dL_test_214 wm_HeliographsLaw_41 B5 O5.dig O5.1 (by omega) (by simp only [List.length_append, List.length_nil]; (try simp (decide := true) only [List.length_cons, List.length_nil, tS133, tS134, tS99]) <;> omega) c5 ⟨by omega, by omega⟩ (Nat.le_of_ble_eq_true rfl) (by omega) (fun M6 b6 x6 B6 c6 k6 => ?_)
  obtain ⟨o6, w6⟩ := o5.kp k6 ⟨Nat.le_refl _, w5⟩
  have O6 := hO.ol o6
  refine gz_ldcS (q := 135) dL_test_217 zr_68 (by decide) ?_
  refine gl_appS (s := 135) (sb := 135 + 100) dL_test_219 wm_HeliographsLaw_37 B6 (zs_135 O6) ⟨by have := o6.1; omega, by have := o6.1; omega, by omega⟩ (by simp only [List.length_append, List.length_nil]; (simp (decide := true) only [List.length_cons, List.length_nil, tS133, tS134, tS135, tS99]) <;> omega) c6 ⟨by omega, by omega⟩ (Nat.le_of_ble_eq_true rfl) (by omega) (fun M7 b7 x7 B7 c7 k7 => ?_)
  obtain ⟨o7, w7⟩ := o6.kp k7 ⟨Nat.le_refl _, w6⟩
  have O7 := hO.ol o7
  refine gb_v (J := mJ4_toString_0e30d) (d1 := d - 1) [] _ dL_test_222 rfl B7.1.1 wm_HeliographsLaw_44 jzJ4_toString_0e30d rfl (Nat.le_of_ble_eq_true rfl) (Nat.le_of_ble_eq_true rfl) (by omega) ⟨by omega, by simp only [List.length_append, List.length_nil]; (simp (decide := true) only [List.length_cons, List.length_nil, tS133, tS134, tS135, tS99]) <;> omega⟩ (js_toString B7 O7.1 (by omega)) (fun v M9 hh => ?_)
  obtain ⟨rfl, g1, g2, g3⟩ := hh
  refine gz_areturn dL_test_225 rfl (Or.inl ⟨_, rfl⟩) ?_
  refine hq _ M9 ⟨M7.2.1, rfl, o7.1, ?_, o7.trans g3, (by show M7.2.1 + 1 < M9.2.1; rw [g2]; exact Nat.lt_succ_self _)⟩
  rw [List.nil_append] at g1
  exact g1
theorem zl_test_6 {len : Nat} {s : Nat → Int32} {M : zk_M} {q n p w m : Nat} (hO : zOl0 len s M) (hq9 : q < M.2.1) (hq1 : M.1 q = (100, 6)) (hv1 : M.2.2 q 1 = .int (iZ 6)) (hv2 : M.2.2 q 2 = .int (iZ (n : Int))) (hvp : M.2.2 q 3 = .int (iZ (p : Int))) (hvw : M.2.2 q 4 = .int (iZ (w : Int))) (hvm : M.2.2 q 5 = .int (iZ (m : Int))) (hb : n < 1000 ∧ p < 1000 ∧ w < 1000 ∧ m < 1000) (hd : 8 ≤ d) : zDo l Γ mL_test d 12 50000 [.ref q] M F (fun v M' => ∃ x : Nat, v = some (.ref x) ∧ M.2.1 ≤ x ∧ zSg M' x (x + 1) (tTest n 6 p w m) ∧ zOl M M' ∧ x + 1 < M'.2.1) := by
  intro Q hq
  have dn := zDec_le n
  have dp := zDec_le p
  have dw := zDec_le w
  have dm := zDec_le m
  have h320 := hO.1
  refine gz_aload_n dL_test_0 rfl ?_
  refine zz_iconst dL_test_1 ?_
  refine gz_iald (n := 2) dL_test_2 hq1 rfl (by omega) hv2 ?_
  refine gz_istore_n dL_test_3 (Nat.le_of_ble_eq_true rfl) rfl ?_
  refine gz_aload_n dL_test_4 rfl ?_
  refine zz_iconst dL_test_5 ?_
  refine gz_iald (n := 1) dL_test_6 hq1 rfl (by omega) hv1 ?_
  refine zz_tsw (tgt := 226) dL_test_7 (by omega) (by decide) (by decide) rfl rfl ?_
  refine gz_newSB dL_test_226 dL_test_229 dL_test_230 wc_HeliographsLaw_32 wm_HeliographsLaw_34 hO.1 (Nat.le_of_ble_eq_true rfl) ⟨by omega, by omega⟩ (by omega) (fun M0 B0 n0 o0 => ?_)
  have O0 := hO.ol o0
  have c0 : 16 ≤ 4100 := by omega
  have w0 : M.2.1 ≤ M.2.1 + 1 := by omega
  refine gz_ldcS (q := 136) dL_test_233 zr_70 (by decide) ?_
  refine gl_appS (s := 136) (sb := 136 + 100) dL_test_235 wm_HeliographsLaw_37 B0 (zs_136 O0) ⟨by have := o0.1; omega, by have := o0.1; omega, by omega⟩ (by simp only [List.length_append, List.length_nil]; (simp (decide := true) only [List.length_cons, List.length_nil, tS136]) <;> omega) c0 ⟨by omega, by omega⟩ (Nat.le_of_ble_eq_true rfl) (by omega) (fun M1 b1 x1 B1 c1 k1 => ?_)
  obtain ⟨o1, w1⟩ := o0.kp k1 ⟨Nat.le_refl _, w0⟩
  have O1 := hO.ol o1
  refine gz_aload_n dL_test_238 rfl ?_
  refine zz_iconst dL_test_239 ?_
  refine gz_iald (n := 5) dL_test_240 ((o1.2.1 q hq9).trans hq1) rfl (by omega) ((congrFun (o1.2.2 q hq9) 5).trans hvm) ?_
  refine gl_appI dL_test_241 wm_HeliographsLaw_41 B1 O1.dig O1.1 (by omega) (by simp only [List.length_append, List.length_nil]; (try simp (decide := true) only [List.length_cons, List.length_nil, tS136]) <;> omega) c1 ⟨by omega, by omega⟩ (Nat.le_of_ble_eq_true rfl) (by omega) (fun M2 b2 x2 B2 c2 k2 => ?_)
  obtain ⟨o2, w2⟩ := o1.kp k2 ⟨Nat.le_refl _, w1⟩
  have O2 := hO.ol o2
  refine gb_v (J := mJ4_toString_0e30d) (d1 := d - 1) [] _ dL_test_244 rfl B2.1.1 wm_HeliographsLaw_44 jzJ4_toString_0e30d rfl (Nat.le_of_ble_eq_true rfl) (Nat.le_of_ble_eq_true rfl) (by omega) ⟨by omega, by simp only [List.length_append, List.length_nil]; (simp (decide := true) only [List.length_cons, List.length_nil, tS136]) <;> omega⟩ (js_toString B2 O2.1 (by omega)) (fun v M9 hh => ?_)
  obtain ⟨rfl, g1, g2, g3⟩ := hh
  refine gz_areturn dL_test_247 rfl (Or.inl ⟨_, rfl⟩) ?_
  refine hq _ M9 ⟨M2.2.1, rfl, o2.1, ?_, o2.trans g3, (by show M2.2.1 + 1 < M9.2.1; rw [g2]; exact Nat.lt_succ_self _)⟩
  rw [List.nil_append] at g1
  exact g1
theorem zl_test_7 {len : Nat} {s : Nat → Int32} {M : zk_M} {q n p w m : Nat} (hO : zOl0 len s M) (hq9 : q < M.2.1) (hq1 : M.1 q = (100, 6)) (hv1 : M.2.2 q 1 = .int (iZ 7)) (hv2 : M.2.2 q 2 = .int (iZ (n : Int))) (hvp : M.2.2 q 3 = .int (iZ (p : Int))) (hvw : M.2.2 q 4 = .int (iZ (w : Int))) (hvm : M.2.2 q 5 = .int (iZ (m : Int))) (hb : n < 1000 ∧ p < 1000 ∧ w < 1000 ∧ m < 1000) (hd : 8 ≤ d) : zDo l Γ mL_test d 12 50000 [.ref q] M F (fun v M' => ∃ x : Nat, v = some (.ref x) ∧ M.2.1 ≤ x ∧ zSg M' x (x + 1) (tTest n 7 p w m) ∧ zOl M M' ∧ x + 1 < M'.2.1) := by
  intro Q hq
  have dn := zDec_le n
  have dp := zDec_le p
  have dw := zDec_le w
  have dm := zDec_le m
  have h320 := hO.1
  refine gz_aload_n dL_test_0 rfl ?_
  refine zz_iconst dL_test_1 ?_
  refine gz_iald (n := 2) dL_test_2 hq1 rfl (by omega) hv2 ?_
  refine gz_istore_n dL_test_3 (Nat.le_of_ble_eq_true rfl) rfl ?_
  refine gz_aload_n dL_test_4 rfl ?_
  refine zz_iconst dL_test_5 ?_
  refine gz_iald (n := 1) dL_test_6 hq1 rfl (by omega) hv1 ?_
  refine zz_tswD (tgt := 248) dL_test_7 (by omega) (by decide) rfl ?_
  refine gz_newSB dL_test_248 dL_test_251 dL_test_252 wc_HeliographsLaw_32 wm_HeliographsLaw_34 hO.1 (Nat.le_of_ble_eq_true rfl) ⟨by omega, by omega⟩ (by omega) (fun M0 B0 n0 o0 => ?_)
  have O0 := hO.ol o0
  have c0 : 16 ≤ 4100 := by omega
  have w0 : M.2.1 ≤ M.2.1 + 1 := by omega
  refine gz_iload_n dL_test_255 rfl ?_
  refine gl_appI dL_test_256 wm_HeliographsLaw_41 B0 O0.dig O0.1 (by omega) (by simp only [List.length_append, List.length_nil]; (try simp (decide := true) only [List.length_cons, List.length_nil, List.length_nil]) <;> omega) c0 ⟨by omega, by omega⟩ (Nat.le_of_ble_eq_true rfl) (by omega) (fun M1 b1 x1 B1 c1 k1 => ?_)
  obtain ⟨o1, w1⟩ := o0.kp k1 ⟨Nat.le_refl _, w0⟩
  have O1 := hO.ol o1
  refine gz_ldcS (q := 137) dL_test_259 zr_72 (by decide) ?_
  refine gl_appS (s := 137) (sb := 137 + 100) dL_test_261 wm_HeliographsLaw_37 B1 (zs_137 O1) ⟨by have := o1.1; omega, by have := o1.1; omega, by omega⟩ (by simp only [List.length_append, List.length_nil]; (simp (decide := true) only [List.length_cons, List.length_nil, tS137]) <;> omega) c1 ⟨by omega, by omega⟩ (Nat.le_of_ble_eq_true rfl) (by omega) (fun M2 b2 x2 B2 c2 k2 => ?_)
  obtain ⟨o2, w2⟩ := o1.kp k2 ⟨Nat.le_refl _, w1⟩
  have O2 := hO.ol o2
  refine gz_iload_n dL_test_264 rfl ?_
  refine gl_appI dL_test_265 wm_HeliographsLaw_41 B2 O2.dig O2.1 (by omega) (by simp only [List.length_append, List.length_nil]; (try simp (decide := true) only [List.length_cons, List.length_nil, tS137]) <;> omega) c2 ⟨by omega, by omega⟩ (Nat.le_of_ble_eq_true rfl) (by omega) (fun M3 b3 x3 B3 c3 k3 => ?_)
  obtain ⟨o3, w3⟩ := o2.kp k3 ⟨Nat.le_refl _, w2⟩
  have O3 := hO.ol o3
  refine gb_v (J := mJ4_toString_0e30d) (d1 := d - 1) [] _ dL_test_268 rfl B3.1.1 wm_HeliographsLaw_44 jzJ4_toString_0e30d rfl (Nat.le_of_ble_eq_true rfl) (Nat.le_of_ble_eq_true rfl) (by omega) ⟨by omega, by simp only [List.length_append, List.length_nil]; (simp (decide := true) only [List.length_cons, List.length_nil, tS137]) <;> omega⟩ (js_toString B3 O3.1 (by omega)) (fun v M9 hh => ?_)
  obtain ⟨rfl, g1, g2, g3⟩ := hh
  refine gz_areturn dL_test_271 rfl (Or.inl ⟨_, rfl⟩) ?_
  refine hq _ M9 ⟨M3.2.1, rfl, o3.1, ?_, o3.trans g3, (by show M3.2.1 + 1 < M9.2.1; rw [g2]; exact Nat.lt_succ_self _)⟩
  rw [List.nil_append] at g1
  exact g1
theorem zl_test {len : Nat} {s : Nat → Int32} {M : zk_M} {q n k p w m : Nat} (hO : zOl0 len s M) (hq9 : q < M.2.1) (hq1 : M.1 q = (100, 6)) (hv1 : M.2.2 q 1 = .int (iZ (k : Int))) (hv2 : M.2.2 q 2 = .int (iZ (n : Int))) (hvp : M.2.2 q 3 = .int (iZ (p : Int))) (hvw : M.2.2 q 4 = .int (iZ (w : Int))) (hvm : M.2.2 q 5 = .int (iZ (m : Int))) (hb : n < 1000 ∧ p < 1000 ∧ w < 1000 ∧ m < 1000) (hk : k < 8) (hd : 8 ≤ d) : zDo l Γ mL_test d 12 50000 [.ref q] M F (fun v M' => ∃ x : Nat, v = some (.ref x) ∧ M.2.1 ≤ x ∧ zSg M' x (x + 1) (tTest n k p w m) ∧ zOl M M' ∧ x + 1 < M'.2.1) := by
  rcases (show k = 0 ∨ k = 1 ∨ k = 2 ∨ k = 3 ∨ k = 4 ∨ k = 5 ∨ k = 6 ∨ k = 7 by omega) with rfl | rfl | rfl | rfl | rfl | rfl | rfl | rfl
  · exact zl_test_0 hO hq9 hq1 hv1 hv2 hvp hvw hvm hb hd
  · exact zl_test_1 hO hq9 hq1 hv1 hv2 hvp hvw hvm hb hd
  · exact zl_test_2 hO hq9 hq1 hv1 hv2 hvp hvw hvm hb hd
  · exact zl_test_3 hO hq9 hq1 hv1 hv2 hvp hvw hvm hb hd
  · exact zl_test_4 hO hq9 hq1 hv1 hv2 hvp hvw hvm hb hd
  · exact zl_test_5 hO hq9 hq1 hv1 hv2 hvp hvw hvm hb hd
  · exact zl_test_6 hO hq9 hq1 hv1 hv2 hvp hvw hvm hb hd
  · exact zl_test_7 hO hq9 hq1 hv1 hv2 hvp hvw hvm hb hd
end
