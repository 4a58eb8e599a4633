/-! what never changes: the reference and its rows; the class and what it is made of -/
def z_mrow : List (Nat × Nat × Nat × Nat) := [(1, 2391, 20, 184600), (5, 2392, 20, 150), (6, 2393, 20, 150), (7, 2394, 20, 150), (8, 2395, 20, 450), (9, 2396, 20, 150), (10, 2397, 20, 4608), (11, 2398, 20, 4608), (12, 2399, 20, 4608), (13, 2400, 20, 4608), (14, 2401, 20, 400), (16, 2402, 20, 21), (17, 2403, 20, 21), (18, 2404, 20, 4074), (19, 2405, 20, 4074), (21, 2406, 20, 1400), (22, 2407, 20, 1400), (23, 2408, 20, 1400), (24, 2409, 20, 1400), (25, 2410, 20, 1400), (27, 2411, 20, 4000), (28, 2412, 20, 4000), (30, 2413, 20, 520), (31, 2414, 20, 8320), (32, 2415, 20, 8320), (36, 2416, 21, 24), (37, 2417, 21, 24), (39, 2418, 20, 400), (40, 2419, 20, 400), (41, 2420, 20, 400), (43, 2421, 20, 64), (45, 2422, 20, 64), (46, 2423, 20, 200)]
def z_MS (S : z_S) : Prop := z_kd S 2390 = 12 ∧ ∀ e ∈ z_mrow, z_rm S 2390 e.1 = some e.2.1 ∧ z_kd S e.2.1 = e.2.2.1 ∧ z_ln S e.2.1 = e.2.2.2
section
variable {S : z_S}
theorem z_MS.k (h : z_MS S) : z_kd S 2390 = 12 := h.1
theorem z_MS.k2391 (h : z_MS S) : z_kd S 2391 = 20 := (h.2 (1, 2391, 20, 184600) (by decide)).2.1
theorem z_MS.l2391 (h : z_MS S) : z_ln S 2391 = 184600 := (h.2 (1, 2391, 20, 184600) (by decide)).2.2
theorem z_MS.g1 (h : z_MS S) {β : Type} {f : Nat → m_M β} {m : z_m} : m_B (m_gR 12 2390 1) f (z_hp S m) = f 2391 (z_hp S m) := by rw [zB_gR h.k, (h.2 (1, 2391, 20, 184600) (by decide)).1]; rfl
theorem z_MS.k2392 (h : z_MS S) : z_kd S 2392 = 20 := (h.2 (5, 2392, 20, 150) (by decide)).2.1
theorem z_MS.l2392 (h : z_MS S) : z_ln S 2392 = 150 := (h.2 (5, 2392, 20, 150) (by decide)).2.2
theorem z_MS.g5 (h : z_MS S) {β : Type} {f : Nat → m_M β} {m : z_m} : m_B (m_gR 12 2390 5) f (z_hp S m) = f 2392 (z_hp S m) := by rw [zB_gR h.k, (h.2 (5, 2392, 20, 150) (by decide)).1]; rfl
theorem z_MS.k2393 (h : z_MS S) : z_kd S 2393 = 20 := (h.2 (6, 2393, 20, 150) (by decide)).2.1
theorem z_MS.l2393 (h : z_MS S) : z_ln S 2393 = 150 := (h.2 (6, 2393, 20, 150) (by decide)).2.2
theorem z_MS.g6 (h : z_MS S) {β : Type} {f : Nat → m_M β} {m : z_m} : m_B (m_gR 12 2390 6) f (z_hp S m) = f 2393 (z_hp S m) := by rw [zB_gR h.k, (h.2 (6, 2393, 20, 150) (by decide)).1]; rfl
theorem z_MS.k2394 (h : z_MS S) : z_kd S 2394 = 20 := (h.2 (7, 2394, 20, 150) (by decide)).2.1
theorem z_MS.l2394 (h : z_MS S) : z_ln S 2394 = 150 := (h.2 (7, 2394, 20, 150) (by decide)).2.2
theorem z_MS.g7 (h : z_MS S) {β : Type} {f : Nat → m_M β} {m : z_m} : m_B (m_gR 12 2390 7) f (z_hp S m) = f 2394 (z_hp S m) := by rw [zB_gR h.k, (h.2 (7, 2394, 20, 150) (by decide)).1]; rfl
theorem z_MS.k2395 (h : z_MS S) : z_kd S 2395 = 20 := (h.2 (8, 2395, 20, 450) (by decide)).2.1
theorem z_MS.l2395 (h : z_MS S) : z_ln S 2395 = 450 := (h.2 (8, 2395, 20, 450) (by decide)).2.2
theorem z_MS.g8 (h : z_MS S) {β : Type} {f : Nat → m_M β} {m : z_m} : m_B (m_gR 12 2390 8) f (z_hp S m) = f 2395 (z_hp S m) := by rw [zB_gR h.k, (h.2 (8, 2395, 20, 450) (by decide)).1]; rfl
theorem z_MS.k2396 (h : z_MS S) : z_kd S 2396 = 20 := (h.2 (9, 2396, 20, 150) (by decide)).2.1
theorem z_MS.l2396 (h : z_MS S) : z_ln S 2396 = 150 := (h.2 (9, 2396, 20, 150) (by decide)).2.2
theorem z_MS.g9 (h : z_MS S) {β : Type} {f : Nat → m_M β} {m : z_m} : m_B (m_gR 12 2390 9) f (z_hp S m) = f 2396 (z_hp S m) := by rw [zB_gR h.k, (h.2 (9, 2396, 20, 150) (by decide)).1]; rfl
theorem z_MS.k2397 (h : z_MS S) : z_kd S 2397 = 20 := (h.2 (10, 2397, 20, 4608) (by decide)).2.1
theorem z_MS.l2397 (h : z_MS S) : z_ln S 2397 = 4608 := (h.2 (10, 2397, 20, 4608) (by decide)).2.2
theorem z_MS.g10 (h : z_MS S) {β : Type} {f : Nat → m_M β} {m : z_m} : m_B (m_gR 12 2390 10) f (z_hp S m) = f 2397 (z_hp S m) := by rw [zB_gR h.k, (h.2 (10, 2397, 20, 4608) (by decide)).1]; rfl
theorem z_MS.k2398 (h : z_MS S) : z_kd S 2398 = 20 := (h.2 (11, 2398, 20, 4608) (by decide)).2.1
theorem z_MS.l2398 (h : z_MS S) : z_ln S 2398 = 4608 := (h.2 (11, 2398, 20, 4608) (by decide)).2.2
theorem z_MS.g11 (h : z_MS S) {β : Type} {f : Nat → m_M β} {m : z_m} : m_B (m_gR 12 2390 11) f (z_hp S m) = f 2398 (z_hp S m) := by rw [zB_gR h.k, (h.2 (11, 2398, 20, 4608) (by decide)).1]; rfl
theorem z_MS.k2399 (h : z_MS S) : z_kd S 2399 = 20 := (h.2 (12, 2399, 20, 4608) (by decide)).2.1
theorem z_MS.l2399 (h : z_MS S) : z_ln S 2399 = 4608 := (h.2 (12, 2399, 20, 4608) (by decide)).2.2
theorem z_MS.g12 (h : z_MS S) {β : Type} {f : Nat → m_M β} {m : z_m} : m_B (m_gR 12 2390 12) f (z_hp S m) = f 2399 (z_hp S m) := by rw [zB_gR h.k, (h.2 (12, 2399, 20, 4608) (by decide)).1]; rfl
theorem z_MS.k2400 (h : z_MS S) : z_kd S 2400 = 20 := (h.2 (13, 2400, 20, 4608) (by decide)).2.1
theorem z_MS.l2400 (h : z_MS S) : z_ln S 2400 = 4608 := (h.2 (13, 2400, 20, 4608) (by decide)).2.2
theorem z_MS.g13 (h : z_MS S) {β : Type} {f : Nat → m_M β} {m : z_m} : m_B (m_gR 12 2390 13) f (z_hp S m) = f 2400 (z_hp S m) := by rw [zB_gR h.k, (h.2 (13, 2400, 20, 4608) (by decide)).1]; rfl
theorem z_MS.k2401 (h : z_MS S) : z_kd S 2401 = 20 := (h.2 (14, 2401, 20, 400) (by decide)).2.1
theorem z_MS.l2401 (h : z_MS S) : z_ln S 2401 = 400 := (h.2 (14, 2401, 20, 400) (by decide)).2.2
theorem z_MS.g14 (h : z_MS S) {β : Type} {f : Nat → m_M β} {m : z_m} : m_B (m_gR 12 2390 14) f (z_hp S m) = f 2401 (z_hp S m) := by rw [zB_gR h.k, (h.2 (14, 2401, 20, 400) (by decide)).1]; rfl
theorem z_MS.k2402 (h : z_MS S) : z_kd S 2402 = 20 := (h.2 (16, 2402, 20, 21) (by decide)).2.1
theorem z_MS.l2402 (h : z_MS S) : z_ln S 2402 = 21 := (h.2 (16, 2402, 20, 21) (by decide)).2.2
theorem z_MS.g16 (h : z_MS S) {β : Type} {f : Nat → m_M β} {m : z_m} : m_B (m_gR 12 2390 16) f (z_hp S m) = f 2402 (z_hp S m) := by rw [zB_gR h.k, (h.2 (16, 2402, 20, 21) (by decide)).1]; rfl
theorem z_MS.k2403 (h : z_MS S) : z_kd S 2403 = 20 := (h.2 (17, 2403, 20, 21) (by decide)).2.1
theorem z_MS.l2403 (h : z_MS S) : z_ln S 2403 = 21 := (h.2 (17, 2403, 20, 21) (by decide)).2.2
theorem z_MS.g17 (h : z_MS S) {β : Type} {f : Nat → m_M β} {m : z_m} : m_B (m_gR 12 2390 17) f (z_hp S m) = f 2403 (z_hp S m) := by rw [zB_gR h.k, (h.2 (17, 2403, 20, 21) (by decide)).1]; rfl
theorem z_MS.k2404 (h : z_MS S) : z_kd S 2404 = 20 := (h.2 (18, 2404, 20, 4074) (by decide)).2.1
theorem z_MS.l2404 (h : z_MS S) : z_ln S 2404 = 4074 := (h.2 (18, 2404, 20, 4074) (by decide)).2.2
theorem z_MS.g18 (h : z_MS S) {β : Type} {f : Nat → m_M β} {m : z_m} : m_B (m_gR 12 2390 18) f (z_hp S m) = f 2404 (z_hp S m) := by rw [zB_gR h.k, (h.2 (18, 2404, 20, 4074) (by decide)).1]; rfl
theorem z_MS.k2405 (h : z_MS S) : z_kd S 2405 = 20 := (h.2 (19, 2405, 20, 4074) (by decide)).2.1
theorem z_MS.l2405 (h : z_MS S) : z_ln S 2405 = 4074 := (h.2 (19, 2405, 20, 4074) (by decide)).2.2
theorem z_MS.g19 (h : z_MS S) {β : Type} {f : Nat → m_M β} {m : z_m} : m_B (m_gR 12 2390 19) f (z_hp S m) = f 2405 (z_hp S m) := by rw [zB_gR h.k, (h.2 (19, 2405, 20, 4074) (by decide)).1]; rfl
theorem z_MS.k2406 (h : z_MS S) : z_kd S 2406 = 20 := (h.2 (21, 2406, 20, 1400) (by decide)).2.1
theorem z_MS.l2406 (h : z_MS S) : z_ln S 2406 = 1400 := (h.2 (21, 2406, 20, 1400) (by decide)).2.2
theorem z_MS.g21 (h : z_MS S) {β : Type} {f : Nat → m_M β} {m : z_m} : m_B (m_gR 12 2390 21) f (z_hp S m) = f 2406 (z_hp S m) := by rw [zB_gR h.k, (h.2 (21, 2406, 20, 1400) (by decide)).1]; rfl
theorem z_MS.k2407 (h : z_MS S) : z_kd S 2407 = 20 := (h.2 (22, 2407, 20, 1400) (by decide)).2.1
theorem z_MS.l2407 (h : z_MS S) : z_ln S 2407 = 1400 := (h.2 (22, 2407, 20, 1400) (by decide)).2.2
theorem z_MS.g22 (h : z_MS S) {β : Type} {f : Nat → m_M β} {m : z_m} : m_B (m_gR 12 2390 22) f (z_hp S m) = f 2407 (z_hp S m) := by rw [zB_gR h.k, (h.2 (22, 2407, 20, 1400) (by decide)).1]; rfl
theorem z_MS.k2408 (h : z_MS S) : z_kd S 2408 = 20 := (h.2 (23, 2408, 20, 1400) (by decide)).2.1
theorem z_MS.l2408 (h : z_MS S) : z_ln S 2408 = 1400 := (h.2 (23, 2408, 20, 1400) (by decide)).2.2
theorem z_MS.g23 (h : z_MS S) {β : Type} {f : Nat → m_M β} {m : z_m} : m_B (m_gR 12 2390 23) f (z_hp S m) = f 2408 (z_hp S m) := by rw [zB_gR h.k, (h.2 (23, 2408, 20, 1400) (by decide)).1]; rfl
theorem z_MS.k2409 (h : z_MS S) : z_kd S 2409 = 20 := (h.2 (24, 2409, 20, 1400) (by decide)).2.1
theorem z_MS.l2409 (h : z_MS S) : z_ln S 2409 = 1400 := (h.2 (24, 2409, 20, 1400) (by decide)).2.2
theorem z_MS.g24 (h : z_MS S) {β : Type} {f : Nat → m_M β} {m : z_m} : m_B (m_gR 12 2390 24) f (z_hp S m) = f 2409 (z_hp S m) := by rw [zB_gR h.k, (h.2 (24, 2409, 20, 1400) (by decide)).1]; rfl
theorem z_MS.k2410 (h : z_MS S) : z_kd S 2410 = 20 := (h.2 (25, 2410, 20, 1400) (by decide)).2.1
theorem z_MS.l2410 (h : z_MS S) : z_ln S 2410 = 1400 := (h.2 (25, 2410, 20, 1400) (by decide)).2.2
theorem z_MS.g25 (h : z_MS S) {β : Type} {f : Nat → m_M β} {m : z_m} : m_B (m_gR 12 2390 25) f (z_hp S m) = f 2410 (z_hp S m) := by rw [zB_gR h.k, (h.2 (25, 2410, 20, 1400) (by decide)).1]; rfl
theorem z_MS.k2411 (h : z_MS S) : z_kd S 2411 = 20 := (h.2 (27, 2411, 20, 4000) (by decide)).2.1
theorem z_MS.l2411 (h : z_MS S) : z_ln S 2411 = 4000 := (h.2 (27, 2411, 20, 4000) (by decide)).2.2
theorem z_MS.g27 (h : z_MS S) {β : Type} {f : Nat → m_M β} {m : z_m} : m_B (m_gR 12 2390 27) f (z_hp S m) = f 2411 (z_hp S m) := by rw [zB_gR h.k, (h.2 (27, 2411, 20, 4000) (by decide)).1]; rfl
theorem z_MS.k2412 (h : z_MS S) : z_kd S 2412 = 20 := (h.2 (28, 2412, 20, 4000) (by decide)).2.1
theorem z_MS.l2412 (h : z_MS S) : z_ln S 2412 = 4000 := (h.2 (28, 2412, 20, 4000) (by decide)).2.2
theorem z_MS.g28 (h : z_MS S) {β : Type} {f : Nat → m_M β} {m : z_m} : m_B (m_gR 12 2390 28) f (z_hp S m) = f 2412 (z_hp S m) := by rw [zB_gR h.k, (h.2 (28, 2412, 20, 4000) (by decide)).1]; rfl
theorem z_MS.k2413 (h : z_MS S) : z_kd S 2413 = 20 := (h.2 (30, 2413, 20, 520) (by decide)).2.1
theorem z_MS.l2413 (h : z_MS S) : z_ln S 2413 = 520 := (h.2 (30, 2413, 20, 520) (by decide)).2.2
theorem z_MS.g30 (h : z_MS S) {β : Type} {f : Nat → m_M β} {m : z_m} : m_B (m_gR 12 2390 30) f (z_hp S m) = f 2413 (z_hp S m) := by rw [zB_gR h.k, (h.2 (30, 2413, 20, 520) (by decide)).1]; rfl
theorem z_MS.k2414 (h : z_MS S) : z_kd S 2414 = 20 := (h.2 (31, 2414, 20, 8320) (by decide)).2.1
theorem z_MS.l2414 (h : z_MS S) : z_ln S 2414 = 8320 := (h.2 (31, 2414, 20, 8320) (by decide)).2.2
theorem z_MS.g31 (h : z_MS S) {β : Type} {f : Nat → m_M β} {m : z_m} : m_B (m_gR 12 2390 31) f (z_hp S m) = f 2414 (z_hp S m) := by rw [zB_gR h.k, (h.2 (31, 2414, 20, 8320) (by decide)).1]; rfl
theorem z_MS.k2415 (h : z_MS S) : z_kd S 2415 = 20 := (h.2 (32, 2415, 20, 8320) (by decide)).2.1
theorem z_MS.l2415 (h : z_MS S) : z_ln S 2415 = 8320 := (h.2 (32, 2415, 20, 8320) (by decide)).2.2
theorem z_MS.g32 (h : z_MS S) {β : Type} {f : Nat → m_M β} {m : z_m} : m_B (m_gR 12 2390 32) f (z_hp S m) = f 2415 (z_hp S m) := by rw [zB_gR h.k, (h.2 (32, 2415, 20, 8320) (by decide)).1]; rfl
theorem z_MS.k2416 (h : z_MS S) : z_kd S 2416 = 21 := (h.2 (36, 2416, 21, 24) (by decide)).2.1
theorem z_MS.l2416 (h : z_MS S) : z_ln S 2416 = 24 := (h.2 (36, 2416, 21, 24) (by decide)).2.2
theorem z_MS.g36 (h : z_MS S) {β : Type} {f : Nat → m_M β} {m : z_m} : m_B (m_gR 12 2390 36) f (z_hp S m) = f 2416 (z_hp S m) := by rw [zB_gR h.k, (h.2 (36, 2416, 21, 24) (by decide)).1]; rfl
theorem z_MS.k2417 (h : z_MS S) : z_kd S 2417 = 21 := (h.2 (37, 2417, 21, 24) (by decide)).2.1
theorem z_MS.l2417 (h : z_MS S) : z_ln S 2417 = 24 := (h.2 (37, 2417, 21, 24) (by decide)).2.2
theorem z_MS.g37 (h : z_MS S) {β : Type} {f : Nat → m_M β} {m : z_m} : m_B (m_gR 12 2390 37) f (z_hp S m) = f 2417 (z_hp S m) := by rw [zB_gR h.k, (h.2 (37, 2417, 21, 24) (by decide)).1]; rfl
theorem z_MS.k2418 (h : z_MS S) : z_kd S 2418 = 20 := (h.2 (39, 2418, 20, 400) (by decide)).2.1
theorem z_MS.l2418 (h : z_MS S) : z_ln S 2418 = 400 := (h.2 (39, 2418, 20, 400) (by decide)).2.2
theorem z_MS.g39 (h : z_MS S) {β : Type} {f : Nat → m_M β} {m : z_m} : m_B (m_gR 12 2390 39) f (z_hp S m) = f 2418 (z_hp S m) := by rw [zB_gR h.k, (h.2 (39, 2418, 20, 400) (by decide)).1]; rfl
theorem z_MS.k2419 (h : z_MS S) : z_kd S 2419 = 20 := (h.2 (40, 2419, 20, 400) (by decide)).2.1
theorem z_MS.l2419 (h : z_MS S) : z_ln S 2419 = 400 := (h.2 (40, 2419, 20, 400) (by decide)).2.2
theorem z_MS.g40 (h : z_MS S) {β : Type} {f : Nat → m_M β} {m : z_m} : m_B (m_gR 12 2390 40) f (z_hp S m) = f 2419 (z_hp S m) := by rw [zB_gR h.k, (h.2 (40, 2419, 20, 400) (by decide)).1]; rfl
theorem z_MS.k2420 (h : z_MS S) : z_kd S 2420 = 20 := (h.2 (41, 2420, 20, 400) (by decide)).2.1
theorem z_MS.l2420 (h : z_MS S) : z_ln S 2420 = 400 := (h.2 (41, 2420, 20, 400) (by decide)).2.2
theorem z_MS.g41 (h : z_MS S) {β : Type} {f : Nat → m_M β} {m : z_m} : m_B (m_gR 12 2390 41) f (z_hp S m) = f 2420 (z_hp S m) := by rw [zB_gR h.k, (h.2 (41, 2420, 20, 400) (by decide)).1]; rfl
theorem z_MS.k2421 (h : z_MS S) : z_kd S 2421 = 20 := (h.2 (43, 2421, 20, 64) (by decide)).2.1
theorem z_MS.l2421 (h : z_MS S) : z_ln S 2421 = 64 := (h.2 (43, 2421, 20, 64) (by decide)).2.2
theorem z_MS.g43 (h : z_MS S) {β : Type} {f : Nat → m_M β} {m : z_m} : m_B (m_gR 12 2390 43) f (z_hp S m) = f 2421 (z_hp S m) := by rw [zB_gR h.k, (h.2 (43, 2421, 20, 64) (by decide)).1]; rfl
theorem z_MS.k2422 (h : z_MS S) : z_kd S 2422 = 20 := (h.2 (45, 2422, 20, 64) (by decide)).2.1
theorem z_MS.l2422 (h : z_MS S) : z_ln S 2422 = 64 := (h.2 (45, 2422, 20, 64) (by decide)).2.2
theorem z_MS.g45 (h : z_MS S) {β : Type} {f : Nat → m_M β} {m : z_m} : m_B (m_gR 12 2390 45) f (z_hp S m) = f 2422 (z_hp S m) := by rw [zB_gR h.k, (h.2 (45, 2422, 20, 64) (by decide)).1]; rfl
theorem z_MS.k2423 (h : z_MS S) : z_kd S 2423 = 20 := (h.2 (46, 2423, 20, 200) (by decide)).2.1
theorem z_MS.l2423 (h : z_MS S) : z_ln S 2423 = 200 := (h.2 (46, 2423, 20, 200) (by decide)).2.2
theorem z_MS.g46 (h : z_MS S) {β : Type} {f : Nat → m_M β} {m : z_m} : m_B (m_gR 12 2390 46) f (z_hp S m) = f 2423 (z_hp S m) := by rw [zB_gR h.k, (h.2 (46, 2423, 20, 200) (by decide)).1]; rfl
end
def z_xk : List (Nat × Nat) := [(0, 11), (1, 10), (8, 1), (10, 5), (21, 8), (29, 3), (37, 2), (45, 4), (49, 4), (53, 9), (61, 6)]
def z_xr : List (Nat × Nat × Nat) := [(0, 0, 1), (0, 1, 8), (0, 2, 10), (0, 3, 21), (0, 4, 29), (0, 5, 37), (0, 6, 53), (0, 7, 61), (0, 8, 62), (0, 9, 241), (1, 0, 2), (1, 1, 3), (1, 2, 4), (1, 3, 5), (1, 4, 6), (1, 5, 7), (8, 0, 9), (10, 0, 11), (10, 1, 12), (10, 2, 13), (10, 3, 14), (10, 4, 15), (10, 5, 16), (10, 6, 17), (10, 7, 18), (10, 8, 19), (10, 9, 20), (21, 0, 22), (29, 0, 30), (29, 1, 8), (37, 0, 38), (37, 1, 45), (37, 2, 49), (45, 0, 46), (45, 1, 47), (45, 2, 48), (49, 0, 50), (49, 1, 51), (49, 2, 52), (53, 0, 54), (61, 0, 8)]
def z_xa : List (Nat × Nat) := [(2, 150), (3, 150), (4, 150), (5, 450), (6, 150), (7, 180), (9, 256), (11, 501), (12, 501), (13, 501), (14, 501), (15, 501), (16, 20), (17, 20), (18, 1240), (19, 501), (20, 8016), (46, 3), (47, 3), (48, 3), (50, 3), (51, 3), (52, 3)]
def z_XS (S : z_S) : Prop := (∀ e ∈ z_xk, z_kd S e.1 = e.2) ∧ (∀ e ∈ z_xr, z_rm S e.1 e.2.1 = some e.2.2) ∧ (∀ e ∈ z_xa, z_kd S e.1 = 20 ∧ z_ln S e.1 = e.2) ∧ (z_BS S 22 256 ∧ z_BS S 30 256 ∧ z_BS S 38 256 ∧ z_BS S 54 256) ∧ z_kd S 241 = 23 ∧ z_ln S 241 = 10
section
variable {S : z_S}
theorem z_XS.k0 (h : z_XS S) : z_kd S 0 = 11 := h.1 (0, 11) (by decide)
theorem z_XS.k1 (h : z_XS S) : z_kd S 1 = 10 := h.1 (1, 10) (by decide)
theorem z_XS.k8 (h : z_XS S) : z_kd S 8 = 1 := h.1 (8, 1) (by decide)
theorem z_XS.k10 (h : z_XS S) : z_kd S 10 = 5 := h.1 (10, 5) (by decide)
theorem z_XS.k21 (h : z_XS S) : z_kd S 21 = 8 := h.1 (21, 8) (by decide)
theorem z_XS.k29 (h : z_XS S) : z_kd S 29 = 3 := h.1 (29, 3) (by decide)
theorem z_XS.k37 (h : z_XS S) : z_kd S 37 = 2 := h.1 (37, 2) (by decide)
theorem z_XS.k45 (h : z_XS S) : z_kd S 45 = 4 := h.1 (45, 4) (by decide)
theorem z_XS.k49 (h : z_XS S) : z_kd S 49 = 4 := h.1 (49, 4) (by decide)
theorem z_XS.k53 (h : z_XS S) : z_kd S 53 = 9 := h.1 (53, 9) (by decide)
theorem z_XS.k61 (h : z_XS S) : z_kd S 61 = 6 := h.1 (61, 6) (by decide)
theorem z_XS.k2 (h : z_XS S) : z_kd S 2 = 20 := (h.2.2.1 (2, 150) (by decide)).1
theorem z_XS.l2 (h : z_XS S) : z_ln S 2 = 150 := (h.2.2.1 (2, 150) (by decide)).2
theorem z_XS.k3 (h : z_XS S) : z_kd S 3 = 20 := (h.2.2.1 (3, 150) (by decide)).1
theorem z_XS.l3 (h : z_XS S) : z_ln S 3 = 150 := (h.2.2.1 (3, 150) (by decide)).2
theorem z_XS.k4 (h : z_XS S) : z_kd S 4 = 20 := (h.2.2.1 (4, 150) (by decide)).1
theorem z_XS.l4 (h : z_XS S) : z_ln S 4 = 150 := (h.2.2.1 (4, 150) (by decide)).2
theorem z_XS.k5 (h : z_XS S) : z_kd S 5 = 20 := (h.2.2.1 (5, 450) (by decide)).1
theorem z_XS.l5 (h : z_XS S) : z_ln S 5 = 450 := (h.2.2.1 (5, 450) (by decide)).2
theorem z_XS.k6 (h : z_XS S) : z_kd S 6 = 20 := (h.2.2.1 (6, 150) (by decide)).1
theorem z_XS.l6 (h : z_XS S) : z_ln S 6 = 150 := (h.2.2.1 (6, 150) (by decide)).2
theorem z_XS.k7 (h : z_XS S) : z_kd S 7 = 20 := (h.2.2.1 (7, 180) (by decide)).1
theorem z_XS.l7 (h : z_XS S) : z_ln S 7 = 180 := (h.2.2.1 (7, 180) (by decide)).2
theorem z_XS.k9 (h : z_XS S) : z_kd S 9 = 20 := (h.2.2.1 (9, 256) (by decide)).1
theorem z_XS.l9 (h : z_XS S) : z_ln S 9 = 256 := (h.2.2.1 (9, 256) (by decide)).2
theorem z_XS.k11 (h : z_XS S) : z_kd S 11 = 20 := (h.2.2.1 (11, 501) (by decide)).1
theorem z_XS.l11 (h : z_XS S) : z_ln S 11 = 501 := (h.2.2.1 (11, 501) (by decide)).2
theorem z_XS.k12 (h : z_XS S) : z_kd S 12 = 20 := (h.2.2.1 (12, 501) (by decide)).1
theorem z_XS.l12 (h : z_XS S) : z_ln S 12 = 501 := (h.2.2.1 (12, 501) (by decide)).2
theorem z_XS.k13 (h : z_XS S) : z_kd S 13 = 20 := (h.2.2.1 (13, 501) (by decide)).1
theorem z_XS.l13 (h : z_XS S) : z_ln S 13 = 501 := (h.2.2.1 (13, 501) (by decide)).2
theorem z_XS.k14 (h : z_XS S) : z_kd S 14 = 20 := (h.2.2.1 (14, 501) (by decide)).1
theorem z_XS.l14 (h : z_XS S) : z_ln S 14 = 501 := (h.2.2.1 (14, 501) (by decide)).2
theorem z_XS.k15 (h : z_XS S) : z_kd S 15 = 20 := (h.2.2.1 (15, 501) (by decide)).1
theorem z_XS.l15 (h : z_XS S) : z_ln S 15 = 501 := (h.2.2.1 (15, 501) (by decide)).2
theorem z_XS.k16 (h : z_XS S) : z_kd S 16 = 20 := (h.2.2.1 (16, 20) (by decide)).1
theorem z_XS.l16 (h : z_XS S) : z_ln S 16 = 20 := (h.2.2.1 (16, 20) (by decide)).2
theorem z_XS.k17 (h : z_XS S) : z_kd S 17 = 20 := (h.2.2.1 (17, 20) (by decide)).1
theorem z_XS.l17 (h : z_XS S) : z_ln S 17 = 20 := (h.2.2.1 (17, 20) (by decide)).2
theorem z_XS.k18 (h : z_XS S) : z_kd S 18 = 20 := (h.2.2.1 (18, 1240) (by decide)).1
theorem z_XS.l18 (h : z_XS S) : z_ln S 18 = 1240 := (h.2.2.1 (18, 1240) (by decide)).2
theorem z_XS.k19 (h : z_XS S) : z_kd S 19 = 20 := (h.2.2.1 (19, 501) (by decide)).1
theorem z_XS.l19 (h : z_XS S) : z_ln S 19 = 501 := (h.2.2.1 (19, 501) (by decide)).2
theorem z_XS.k20 (h : z_XS S) : z_kd S 20 = 20 := (h.2.2.1 (20, 8016) (by decide)).1
theorem z_XS.l20 (h : z_XS S) : z_ln S 20 = 8016 := (h.2.2.1 (20, 8016) (by decide)).2
theorem z_XS.k46 (h : z_XS S) : z_kd S 46 = 20 := (h.2.2.1 (46, 3) (by decide)).1
theorem z_XS.l46 (h : z_XS S) : z_ln S 46 = 3 := (h.2.2.1 (46, 3) (by decide)).2
theorem z_XS.k47 (h : z_XS S) : z_kd S 47 = 20 := (h.2.2.1 (47, 3) (by decide)).1
theorem z_XS.l47 (h : z_XS S) : z_ln S 47 = 3 := (h.2.2.1 (47, 3) (by decide)).2
theorem z_XS.k48 (h : z_XS S) : z_kd S 48 = 20 := (h.2.2.1 (48, 3) (by decide)).1
theorem z_XS.l48 (h : z_XS S) : z_ln S 48 = 3 := (h.2.2.1 (48, 3) (by decide)).2
theorem z_XS.k50 (h : z_XS S) : z_kd S 50 = 20 := (h.2.2.1 (50, 3) (by decide)).1
theorem z_XS.l50 (h : z_XS S) : z_ln S 50 = 3 := (h.2.2.1 (50, 3) (by decide)).2
theorem z_XS.k51 (h : z_XS S) : z_kd S 51 = 20 := (h.2.2.1 (51, 3) (by decide)).1
theorem z_XS.l51 (h : z_XS S) : z_ln S 51 = 3 := (h.2.2.1 (51, 3) (by decide)).2
theorem z_XS.k52 (h : z_XS S) : z_kd S 52 = 20 := (h.2.2.1 (52, 3) (by decide)).1
theorem z_XS.l52 (h : z_XS S) : z_ln S 52 = 3 := (h.2.2.1 (52, 3) (by decide)).2
theorem z_XS.g0_0 (h : z_XS S) {β : Type} {f : Nat → m_M β} {m : z_m} : m_B (m_gR 11 0 0) f (z_hp S m) = f 1 (z_hp S m) := by rw [zB_gR h.k0, h.2.1 (0, 0, 1) (by decide)]; rfl
theorem z_XS.g0_1 (h : z_XS S) {β : Type} {f : Nat → m_M β} {m : z_m} : m_B (m_gR 11 0 1) f (z_hp S m) = f 8 (z_hp S m) := by rw [zB_gR h.k0, h.2.1 (0, 1, 8) (by decide)]; rfl
theorem z_XS.g0_2 (h : z_XS S) {β : Type} {f : Nat → m_M β} {m : z_m} : m_B (m_gR 11 0 2) f (z_hp S m) = f 10 (z_hp S m) := by rw [zB_gR h.k0, h.2.1 (0, 2, 10) (by decide)]; rfl
theorem z_XS.g0_3 (h : z_XS S) {β : Type} {f : Nat → m_M β} {m : z_m} : m_B (m_gR 11 0 3) f (z_hp S m) = f 21 (z_hp S m) := by rw [zB_gR h.k0, h.2.1 (0, 3, 21) (by decide)]; rfl
theorem z_XS.g0_4 (h : z_XS S) {β : Type} {f : Nat → m_M β} {m : z_m} : m_B (m_gR 11 0 4) f (z_hp S m) = f 29 (z_hp S m) := by rw [zB_gR h.k0, h.2.1 (0, 4, 29) (by decide)]; rfl
theorem z_XS.g0_5 (h : z_XS S) {β : Type} {f : Nat → m_M β} {m : z_m} : m_B (m_gR 11 0 5) f (z_hp S m) = f 37 (z_hp S m) := by rw [zB_gR h.k0, h.2.1 (0, 5, 37) (by decide)]; rfl
theorem z_XS.g0_6 (h : z_XS S) {β : Type} {f : Nat → m_M β} {m : z_m} : m_B (m_gR 11 0 6) f (z_hp S m) = f 53 (z_hp S m) := by rw [zB_gR h.k0, h.2.1 (0, 6, 53) (by decide)]; rfl
theorem z_XS.g0_7 (h : z_XS S) {β : Type} {f : Nat → m_M β} {m : z_m} : m_B (m_gR 11 0 7) f (z_hp S m) = f 61 (z_hp S m) := by rw [zB_gR h.k0, h.2.1 (0, 7, 61) (by decide)]; rfl
theorem z_XS.g0_8 (h : z_XS S) {β : Type} {f : Nat → m_M β} {m : z_m} : m_B (m_gR 11 0 8) f (z_hp S m) = f 62 (z_hp S m) := by rw [zB_gR h.k0, h.2.1 (0, 8, 62) (by decide)]; rfl
theorem z_XS.g0_9 (h : z_XS S) {β : Type} {f : Nat → m_M β} {m : z_m} : m_B (m_gR 11 0 9) f (z_hp S m) = f 241 (z_hp S m) := by rw [zB_gR h.k0, h.2.1 (0, 9, 241) (by decide)]; rfl
theorem z_XS.g1_0 (h : z_XS S) {β : Type} {f : Nat → m_M β} {m : z_m} : m_B (m_gR 10 1 0) f (z_hp S m) = f 2 (z_hp S m) := by rw [zB_gR h.k1, h.2.1 (1, 0, 2) (by decide)]; rfl
theorem z_XS.g1_1 (h : z_XS S) {β : Type} {f : Nat → m_M β} {m : z_m} : m_B (m_gR 10 1 1) f (z_hp S m) = f 3 (z_hp S m) := by rw [zB_gR h.k1, h.2.1 (1, 1, 3) (by decide)]; rfl
theorem z_XS.g1_2 (h : z_XS S) {β : Type} {f : Nat → m_M β} {m : z_m} : m_B (m_gR 10 1 2) f (z_hp S m) = f 4 (z_hp S m) := by rw [zB_gR h.k1, h.2.1 (1, 2, 4) (by decide)]; rfl
theorem z_XS.g1_3 (h : z_XS S) {β : Type} {f : Nat → m_M β} {m : z_m} : m_B (m_gR 10 1 3) f (z_hp S m) = f 5 (z_hp S m) := by rw [zB_gR h.k1, h.2.1 (1, 3, 5) (by decide)]; rfl
theorem z_XS.g1_4 (h : z_XS S) {β : Type} {f : Nat → m_M β} {m : z_m} : m_B (m_gR 10 1 4) f (z_hp S m) = f 6 (z_hp S m) := by rw [zB_gR h.k1, h.2.1 (1, 4, 6) (by decide)]; rfl
theorem z_XS.g1_5 (h : z_XS S) {β : Type} {f : Nat → m_M β} {m : z_m} : m_B (m_gR 10 1 5) f (z_hp S m) = f 7 (z_hp S m) := by rw [zB_gR h.k1, h.2.1 (1, 5, 7) (by decide)]; rfl
theorem z_XS.g8_0 (h : z_XS S) {β : Type} {f : Nat → m_M β} {m : z_m} : m_B (m_gR 1 8 0) f (z_hp S m) = f 9 (z_hp S m) := by rw [zB_gR h.k8, h.2.1 (8, 0, 9) (by decide)]; rfl
theorem z_XS.g10_0 (h : z_XS S) {β : Type} {f : Nat → m_M β} {m : z_m} : m_B (m_gR 5 10 0) f (z_hp S m) = f 11 (z_hp S m) := by rw [zB_gR h.k10, h.2.1 (10, 0, 11) (by decide)]; rfl
theorem z_XS.g10_1 (h : z_XS S) {β : Type} {f : Nat → m_M β} {m : z_m} : m_B (m_gR 5 10 1) f (z_hp S m) = f 12 (z_hp S m) := by rw [zB_gR h.k10, h.2.1 (10, 1, 12) (by decide)]; rfl
theorem z_XS.g10_2 (h : z_XS S) {β : Type} {f : Nat → m_M β} {m : z_m} : m_B (m_gR 5 10 2) f (z_hp S m) = f 13 (z_hp S m) := by rw [zB_gR h.k10, h.2.1 (10, 2, 13) (by decide)]; rfl
theorem z_XS.g10_3 (h : z_XS S) {β : Type} {f : Nat → m_M β} {m : z_m} : m_B (m_gR 5 10 3) f (z_hp S m) = f 14 (z_hp S m) := by rw [zB_gR h.k10, h.2.1 (10, 3, 14) (by decide)]; rfl
theorem z_XS.g10_4 (h : z_XS S) {β : Type} {f : Nat → m_M β} {m : z_m} : m_B (m_gR 5 10 4) f (z_hp S m) = f 15 (z_hp S m) := by rw [zB_gR h.k10, h.2.1 (10, 4, 15) (by decide)]; rfl
theorem z_XS.g10_5 (h : z_XS S) {β : Type} {f : Nat → m_M β} {m : z_m} : m_B (m_gR 5 10 5) f (z_hp S m) = f 16 (z_hp S m) := by rw [zB_gR h.k10, h.2.1 (10, 5, 16) (by decide)]; rfl
theorem z_XS.g10_6 (h : z_XS S) {β : Type} {f : Nat → m_M β} {m : z_m} : m_B (m_gR 5 10 6) f (z_hp S m) = f 17 (z_hp S m) := by rw [zB_gR h.k10, h.2.1 (10, 6, 17) (by decide)]; rfl
theorem z_XS.g10_7 (h : z_XS S) {β : Type} {f : Nat → m_M β} {m : z_m} : m_B (m_gR 5 10 7) f (z_hp S m) = f 18 (z_hp S m) := by rw [zB_gR h.k10, h.2.1 (10, 7, 18) (by decide)]; rfl
theorem z_XS.g10_8 (h : z_XS S) {β : Type} {f : Nat → m_M β} {m : z_m} : m_B (m_gR 5 10 8) f (z_hp S m) = f 19 (z_hp S m) := by rw [zB_gR h.k10, h.2.1 (10, 8, 19) (by decide)]; rfl
theorem z_XS.g10_9 (h : z_XS S) {β : Type} {f : Nat → m_M β} {m : z_m} : m_B (m_gR 5 10 9) f (z_hp S m) = f 20 (z_hp S m) := by rw [zB_gR h.k10, h.2.1 (10, 9, 20) (by decide)]; rfl
theorem z_XS.g21_0 (h : z_XS S) {β : Type} {f : Nat → m_M β} {m : z_m} : m_B (m_gR 8 21 0) f (z_hp S m) = f 22 (z_hp S m) := by rw [zB_gR h.k21, h.2.1 (21, 0, 22) (by decide)]; rfl
theorem z_XS.g29_0 (h : z_XS S) {β : Type} {f : Nat → m_M β} {m : z_m} : m_B (m_gR 3 29 0) f (z_hp S m) = f 30 (z_hp S m) := by rw [zB_gR h.k29, h.2.1 (29, 0, 30) (by decide)]; rfl
theorem z_XS.g29_1 (h : z_XS S) {β : Type} {f : Nat → m_M β} {m : z_m} : m_B (m_gR 3 29 1) f (z_hp S m) = f 8 (z_hp S m) := by rw [zB_gR h.k29, h.2.1 (29, 1, 8) (by decide)]; rfl
theorem z_XS.g37_0 (h : z_XS S) {β : Type} {f : Nat → m_M β} {m : z_m} : m_B (m_gR 2 37 0) f (z_hp S m) = f 38 (z_hp S m) := by rw [zB_gR h.k37, h.2.1 (37, 0, 38) (by decide)]; rfl
theorem z_XS.g37_1 (h : z_XS S) {β : Type} {f : Nat → m_M β} {m : z_m} : m_B (m_gR 2 37 1) f (z_hp S m) = f 45 (z_hp S m) := by rw [zB_gR h.k37, h.2.1 (37, 1, 45) (by decide)]; rfl
theorem z_XS.g37_2 (h : z_XS S) {β : Type} {f : Nat → m_M β} {m : z_m} : m_B (m_gR 2 37 2) f (z_hp S m) = f 49 (z_hp S m) := by rw [zB_gR h.k37, h.2.1 (37, 2, 49) (by decide)]; rfl
theorem z_XS.g45_0 (h : z_XS S) {β : Type} {f : Nat → m_M β} {m : z_m} : m_B (m_gR 4 45 0) f (z_hp S m) = f 46 (z_hp S m) := by rw [zB_gR h.k45, h.2.1 (45, 0, 46) (by decide)]; rfl
theorem z_XS.g45_1 (h : z_XS S) {β : Type} {f : Nat → m_M β} {m : z_m} : m_B (m_gR 4 45 1) f (z_hp S m) = f 47 (z_hp S m) := by rw [zB_gR h.k45, h.2.1 (45, 1, 47) (by decide)]; rfl
theorem z_XS.g45_2 (h : z_XS S) {β : Type} {f : Nat → m_M β} {m : z_m} : m_B (m_gR 4 45 2) f (z_hp S m) = f 48 (z_hp S m) := by rw [zB_gR h.k45, h.2.1 (45, 2, 48) (by decide)]; rfl
theorem z_XS.g49_0 (h : z_XS S) {β : Type} {f : Nat → m_M β} {m : z_m} : m_B (m_gR 4 49 0) f (z_hp S m) = f 50 (z_hp S m) := by rw [zB_gR h.k49, h.2.1 (49, 0, 50) (by decide)]; rfl
theorem z_XS.g49_1 (h : z_XS S) {β : Type} {f : Nat → m_M β} {m : z_m} : m_B (m_gR 4 49 1) f (z_hp S m) = f 51 (z_hp S m) := by rw [zB_gR h.k49, h.2.1 (49, 1, 51) (by decide)]; rfl
theorem z_XS.g49_2 (h : z_XS S) {β : Type} {f : Nat → m_M β} {m : z_m} : m_B (m_gR 4 49 2) f (z_hp S m) = f 52 (z_hp S m) := by rw [zB_gR h.k49, h.2.1 (49, 2, 52) (by decide)]; rfl
theorem z_XS.g53_0 (h : z_XS S) {β : Type} {f : Nat → m_M β} {m : z_m} : m_B (m_gR 9 53 0) f (z_hp S m) = f 54 (z_hp S m) := by rw [zB_gR h.k53, h.2.1 (53, 0, 54) (by decide)]; rfl
theorem z_XS.g61_0 (h : z_XS S) {β : Type} {f : Nat → m_M β} {m : z_m} : m_B (m_gR 6 61 0) f (z_hp S m) = f 8 (z_hp S m) := by rw [zB_gR h.k61, h.2.1 (61, 0, 8) (by decide)]; rfl
theorem z_XS.k241 (h : z_XS S) : z_kd S 241 = 23 := h.2.2.2.2.1
theorem z_XS.l241 (h : z_XS S) : z_ln S 241 = 10 := h.2.2.2.2.2
theorem z_XS.b22 (h : z_XS S) : z_BS S 22 256 := h.2.2.2.1.1
theorem z_XS.b30 (h : z_XS S) : z_BS S 30 256 := h.2.2.2.1.2.1
theorem z_XS.b38 (h : z_XS S) : z_BS S 38 256 := h.2.2.2.1.2.2.1
theorem z_XS.b54 (h : z_XS S) : z_BS S 54 256 := h.2.2.2.1.2.2.2
end
