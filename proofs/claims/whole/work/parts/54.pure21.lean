
theorem cpZ_if {x y w h U V t : Int32} : (if (inF x y) = true then if w ≤ 0 then 0 else if h ≤ 0 then 0 else if (32 - x) < w then 0 else if (24 - y) < h then 0 else if t < 0 then 0 else if 4 ≤ t then 0 else if (inF U V) = true then 1 else 0 else 0) = bI (cpZ x y w h U V t) := by
  unfold cpZ
  by_cases h1 : inF x y = true
  · by_cases h2 : w ≤ 0
    · simp [h1, h2]; rfl
    · by_cases h3 : h ≤ 0
      · simp [h1, h2, h3]; rfl
      · by_cases h4 : 32 - x < w
        · simp [h1, h2, h3, h4]; rfl
        · by_cases h5 : 24 - y < h
          · simp [h1, h2, h3, h4, h5]; rfl
          · by_cases h6 : t < 0
            · simp [h1, h2, h3, h4, h5, h6]; rfl
            · by_cases h7 : 4 ≤ t
              · simp [h1, h2, h3, h4, h5, h6, h7]; rfl
              · by_cases h8 : inF U V = true
                · simp [h1, h2, h3, h4, h5, h6, h7, h8]; rfl
                · simp [h1, h2, h3, h4, h5, h6, h7, h8]; rfl
  · simp [h1]; rfl
