/-! where the other things lie -/
theorem rc_1 : rfT 0 1 = 85 := by decide
theorem rc_2 : rfT 0 2 = 169 := by decide
theorem rc_3 : rfT 0 3 = 253 := by decide
theorem rc_4 : rfT 0 4 = 256 := by decide
theorem rc_5 : rfT 0 5 = 263 := by decide
theorem rc_6 : rfT 0 6 = 264 := by decide
theorem rc_7 : rfT 0 7 = 265 := by decide
theorem rm_1 : rfT 298 1 = 300 := by decide
theorem rm_2 : rfT 298 2 = 301 := by decide
theorem rm_4 : rfT 298 4 = 302 := by decide
theorem rm_5 : rfT 298 5 = 303 := by decide
theorem rm_6 : rfT 298 6 = 304 := by decide
theorem rm_9 : rfT 298 9 = 305 := by decide
theorem rm_11 : rfT 298 11 = 306 := by decide
theorem rm_12 : rfT 298 12 = 307 := by decide
theorem rm_22 : rfT 298 22 = 308 := by decide
theorem rm_30 : rfT 298 30 = 309 := by decide
theorem rm_34 : rfT 298 34 = 310 := by decide
theorem rm_35 : rfT 298 35 = 311 := by decide
theorem rm_36 : rfT 298 36 = 312 := by decide
theorem rm_37 : rfT 298 37 = 313 := by decide
theorem rm_38 : rfT 298 38 = 314 := by decide
theorem rm_39 : rfT 298 39 = 315 := by decide
theorem rm_40 : rfT 298 40 = 316 := by decide
theorem rm_41 : rfT 298 41 = 317 := by decide
theorem rm_42 : rfT 298 42 = 318 := by decide
theorem rm_43 : rfT 298 43 = 319 := by decide
theorem rm_45 : rfT 298 45 = 320 := by decide
theorem rm_46 : rfT 298 46 = 321 := by decide
theorem rt_0 : rfT 256 0 = 257 := by decide
theorem rt_1 : rfT 256 1 = 258 := by decide
theorem rt_2 : rfT 256 2 = 259 := by decide
theorem rt_3 : rfT 256 3 = 260 := by decide
theorem rt_4 : rfT 256 4 = 261 := by decide
theorem rt_s : rfT 261 7 = 262 := by decide
theorem rw_0 : rfT 253 0 = 254 := by decide
theorem rw_1 : rfT 253 1 = 255 := by decide
theorem rg_a {r : Nat} (h : r < 4) : rfT 264 r = 266 + 2 * r := (by decide : ∀ r, r < 4 → rfT 264 r = 266 + 2 * r) r h
theorem rg_v {r : Nat} (h : r < 4) : rfT (266 + 2 * r) 0 = 267 + 2 * r := (by decide : ∀ r, r < 4 → rfT (266 + 2 * r) 0 = 267 + 2 * r) r h
theorem rs_a {r : Nat} (h : r < 6) : rfT 265 r = 274 + 4 * r := (by decide : ∀ r, r < 6 → rfT 265 r = 274 + 4 * r) r h
theorem rs_p {r : Nat} (h : r < 6) : rfT (274 + 4 * r) 0 = 275 + 4 * r := (by decide : ∀ r, r < 6 → rfT (274 + 4 * r) 0 = 275 + 4 * r) r h
theorem rs_r {r : Nat} (h : r < 6) : rfT (274 + 4 * r) 1 = 276 + 4 * r := (by decide : ∀ r, r < 6 → rfT (274 + 4 * r) 1 = 276 + 4 * r) r h
theorem rs_v {r : Nat} (h : r < 6) : rfT (276 + 4 * r) 0 = 277 + 4 * r := (by decide : ∀ r, r < 6 → rfT (276 + 4 * r) 0 = 277 + 4 * r) r h
