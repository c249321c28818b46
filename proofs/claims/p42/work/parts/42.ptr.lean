def am_h0 (n : Nat) (xs : Nat → Int32) : am_H := (fun s => if s = 1 then 2 else 0, fun s k j => if s = 1 ∧ k = 0 then xs j else if s = 1 ∧ k = 1 ∧ j = 0 then Int32.ofNat n else 0, fun _ _ _ => none, fun _ _ _ => 0, 0, 0)
/-! ## what the two have in common -/
def ShC (h : am_H) : Prop := m_gr h 69 0 1 = some (17, 0) ∧ m_gr h 69 0 2 = some (18, 0) ∧ m_gr h 69 0 3 = some (19, 0) ∧ m_gr h 69 0 5 = some (20, 0) ∧ m_gr h 69 0 7 = some (21, 0) ∧ m_gr h 69 0 8 = some (22, 0) ∧ m_gr h 69 0 9 = some (23, 0) ∧ m_gr h 69 0 10 = some (24, 0) ∧ m_gr h 69 0 11 = some (25, 0) ∧ m_gr h 21 0 1 = some (11, 0) ∧ m_gr h 21 0 2 = some (12, 0) ∧ m_gr h 21 0 3 = some (13, 0) ∧ m_gr h 22 0 0 = some (14, 0) ∧ m_gr h 22 0 2 = some (15, 0) ∧ m_gr h 23 0 0 = some (8, 0) ∧ m_gr h 23 0 1 = some (9, 0) ∧ m_gr h 23 0 2 = some (10, 0) ∧ m_gr h 24 0 0 = some (2, 0) ∧ m_gr h 24 0 2 = some (3, 0) ∧ m_gr h 24 0 3 = some (4, 0) ∧ (∀ k, k < 12 → m_gr h 18 0 k = some (26, k) ∧ m_gr h 26 k 1 = some (5, k) ∧ m_gr h 26 k 2 = some (6, k) ∧ m_gr h 26 k 3 = some (7, k))
theorem pc_same {h : am_H} (H : ShC h) : m_gr h 69 0 1 = some (17, 0) := H.1
theorem pc_people {h : am_H} (H : ShC h) : m_gr h 69 0 2 = some (18, 0) := H.2.1
theorem pc_works {h : am_H} (H : ShC h) : m_gr h 69 0 3 = some (19, 0) := H.2.2.1
theorem pc_cols {h : am_H} (H : ShC h) : m_gr h 69 0 5 = some (20, 0) := H.2.2.2.1
theorem pc_tags {h : am_H} (H : ShC h) : m_gr h 69 0 7 = some (21, 0) := H.2.2.2.2.1
theorem pc_tape {h : am_H} (H : ShC h) : m_gr h 69 0 8 = some (22, 0) := H.2.2.2.2.2.1
theorem pc_sieve {h : am_H} (H : ShC h) : m_gr h 69 0 9 = some (23, 0) := H.2.2.2.2.2.2.1
theorem pc_gifts {h : am_H} (H : ShC h) : m_gr h 69 0 10 = some (24, 0) := H.2.2.2.2.2.2.2.1
theorem pc_coms {h : am_H} (H : ShC h) : m_gr h 69 0 11 = some (25, 0) := H.2.2.2.2.2.2.2.2.1
theorem pc_mean {h : am_H} (H : ShC h) : m_gr h 21 0 1 = some (11, 0) := H.2.2.2.2.2.2.2.2.2.1
theorem pc_par {h : am_H} (H : ShC h) : m_gr h 21 0 2 = some (12, 0) := H.2.2.2.2.2.2.2.2.2.2.1
theorem pc_abv {h : am_H} (H : ShC h) : m_gr h 21 0 3 = some (13, 0) := H.2.2.2.2.2.2.2.2.2.2.2.1
theorem pc_chars {h : am_H} (H : ShC h) : m_gr h 22 0 0 = some (14, 0) := H.2.2.2.2.2.2.2.2.2.2.2.2.1
theorem pc_scan {h : am_H} (H : ShC h) : m_gr h 22 0 2 = some (15, 0) := H.2.2.2.2.2.2.2.2.2.2.2.2.2.1
theorem pc_parts {h : am_H} (H : ShC h) : m_gr h 23 0 0 = some (8, 0) := H.2.2.2.2.2.2.2.2.2.2.2.2.2.2.1
theorem pc_items {h : am_H} (H : ShC h) : m_gr h 23 0 1 = some (9, 0) := H.2.2.2.2.2.2.2.2.2.2.2.2.2.2.2.1
theorem pc_nots {h : am_H} (H : ShC h) : m_gr h 23 0 2 = some (10, 0) := H.2.2.2.2.2.2.2.2.2.2.2.2.2.2.2.2.1
theorem pc_signs {h : am_H} (H : ShC h) : m_gr h 24 0 0 = some (2, 0) := H.2.2.2.2.2.2.2.2.2.2.2.2.2.2.2.2.2.1
theorem pc_recv {h : am_H} (H : ShC h) : m_gr h 24 0 2 = some (3, 0) := H.2.2.2.2.2.2.2.2.2.2.2.2.2.2.2.2.2.2.1
theorem pc_ways {h : am_H} (H : ShC h) : m_gr h 24 0 3 = some (4, 0) := H.2.2.2.2.2.2.2.2.2.2.2.2.2.2.2.2.2.2.2.1
theorem pc_per {h : am_H} (H : ShC h) {k : Nat} (hk : k < 12) : m_gr h 18 0 k = some (26, k) := (H.2.2.2.2.2.2.2.2.2.2.2.2.2.2.2.2.2.2.2.2 k hk).1
theorem pc_wd {h : am_H} (H : ShC h) {k : Nat} (hk : k < 12) : m_gr h 26 k 1 = some (5, k) := (H.2.2.2.2.2.2.2.2.2.2.2.2.2.2.2.2.2.2.2.2 k hk).2.1
theorem pc_pd {h : am_H} (H : ShC h) {k : Nat} (hk : k < 12) : m_gr h 26 k 2 = some (6, k) := (H.2.2.2.2.2.2.2.2.2.2.2.2.2.2.2.2.2.2.2.2 k hk).2.2.1
theorem pc_dg {h : am_H} (H : ShC h) {k : Nat} (hk : k < 12) : m_gr h 26 k 3 = some (7, k) := (H.2.2.2.2.2.2.2.2.2.2.2.2.2.2.2.2.2.2.2.2 k hk).2.2.2
def ShM (h : am_H) : Prop := m_gr h 70 0 2 = some (31, 0) ∧ m_gr h 70 0 3 = some (32, 0) ∧ m_gr h 70 0 5 = some (33, 0) ∧ m_gr h 70 0 6 = some (34, 0) ∧ m_gr h 70 0 7 = some (35, 0) ∧ m_gr h 70 0 8 = some (36, 0) ∧ m_gr h 70 0 9 = some (37, 0) ∧ m_gr h 70 0 10 = some (38, 0) ∧ m_gr h 70 0 11 = some (39, 0) ∧ m_gr h 70 0 12 = some (40, 0) ∧ m_gr h 70 0 13 = some (41, 0) ∧ m_gr h 70 0 14 = some (42, 0) ∧ m_gr h 70 0 15 = some (43, 0) ∧ m_gr h 70 0 16 = some (44, 0) ∧ m_gr h 70 0 18 = some (45, 0) ∧ m_gr h 70 0 19 = some (46, 0) ∧ m_gr h 70 0 21 = some (47, 0) ∧ m_gr h 70 0 22 = some (48, 0) ∧ m_gr h 70 0 23 = some (49, 0) ∧ m_gr h 70 0 25 = some (50, 0) ∧ m_gr h 70 0 26 = some (51, 0) ∧ m_gr h 70 0 27 = some (52, 0) ∧ m_gr h 70 0 28 = some (53, 0) ∧ m_gr h 70 0 31 = some (54, 0) ∧ m_gr h 70 0 32 = some (55, 0) ∧ m_gr h 70 0 33 = some (56, 0) ∧ m_gr h 70 0 34 = some (57, 0) ∧ m_gr h 70 0 35 = some (58, 0) ∧ m_gr h 70 0 36 = some (59, 0) ∧ m_gr h 70 0 38 = some (60, 0) ∧ m_gr h 70 0 39 = some (61, 0) ∧ m_gr h 70 0 40 = some (62, 0) ∧ m_gr h 70 0 41 = some (63, 0) ∧ m_gr h 70 0 42 = some (64, 0) ∧ m_gr h 70 0 43 = some (65, 0) ∧ m_gr h 70 0 44 = some (66, 0) ∧ m_gr h 70 0 45 = some (67, 0) ∧ m_gr h 70 0 46 = some (68, 0)
theorem pm_2 {h : am_H} (H : ShM h) : m_gr h 70 0 2 = some (31, 0) := H.1
theorem pm_3 {h : am_H} (H : ShM h) : m_gr h 70 0 3 = some (32, 0) := H.2.1
theorem pm_5 {h : am_H} (H : ShM h) : m_gr h 70 0 5 = some (33, 0) := H.2.2.1
theorem pm_6 {h : am_H} (H : ShM h) : m_gr h 70 0 6 = some (34, 0) := H.2.2.2.1
theorem pm_7 {h : am_H} (H : ShM h) : m_gr h 70 0 7 = some (35, 0) := H.2.2.2.2.1
theorem pm_8 {h : am_H} (H : ShM h) : m_gr h 70 0 8 = some (36, 0) := H.2.2.2.2.2.1
theorem pm_9 {h : am_H} (H : ShM h) : m_gr h 70 0 9 = some (37, 0) := H.2.2.2.2.2.2.1
theorem pm_10 {h : am_H} (H : ShM h) : m_gr h 70 0 10 = some (38, 0) := H.2.2.2.2.2.2.2.1
theorem pm_11 {h : am_H} (H : ShM h) : m_gr h 70 0 11 = some (39, 0) := H.2.2.2.2.2.2.2.2.1
theorem pm_12 {h : am_H} (H : ShM h) : m_gr h 70 0 12 = some (40, 0) := H.2.2.2.2.2.2.2.2.2.1
theorem pm_13 {h : am_H} (H : ShM h) : m_gr h 70 0 13 = some (41, 0) := H.2.2.2.2.2.2.2.2.2.2.1
theorem pm_14 {h : am_H} (H : ShM h) : m_gr h 70 0 14 = some (42, 0) := H.2.2.2.2.2.2.2.2.2.2.2.1
theorem pm_15 {h : am_H} (H : ShM h) : m_gr h 70 0 15 = some (43, 0) := H.2.2.2.2.2.2.2.2.2.2.2.2.1
theorem pm_16 {h : am_H} (H : ShM h) : m_gr h 70 0 16 = some (44, 0) := H.2.2.2.2.2.2.2.2.2.2.2.2.2.1
theorem pm_18 {h : am_H} (H : ShM h) : m_gr h 70 0 18 = some (45, 0) := H.2.2.2.2.2.2.2.2.2.2.2.2.2.2.1
theorem pm_19 {h : am_H} (H : ShM h) : m_gr h 70 0 19 = some (46, 0) := H.2.2.2.2.2.2.2.2.2.2.2.2.2.2.2.1
theorem pm_21 {h : am_H} (H : ShM h) : m_gr h 70 0 21 = some (47, 0) := H.2.2.2.2.2.2.2.2.2.2.2.2.2.2.2.2.1
theorem pm_22 {h : am_H} (H : ShM h) : m_gr h 70 0 22 = some (48, 0) := H.2.2.2.2.2.2.2.2.2.2.2.2.2.2.2.2.2.1
theorem pm_23 {h : am_H} (H : ShM h) : m_gr h 70 0 23 = some (49, 0) := H.2.2.2.2.2.2.2.2.2.2.2.2.2.2.2.2.2.2.1
theorem pm_25 {h : am_H} (H : ShM h) : m_gr h 70 0 25 = some (50, 0) := H.2.2.2.2.2.2.2.2.2.2.2.2.2.2.2.2.2.2.2.1
theorem pm_26 {h : am_H} (H : ShM h) : m_gr h 70 0 26 = some (51, 0) := H.2.2.2.2.2.2.2.2.2.2.2.2.2.2.2.2.2.2.2.2.1
theorem pm_27 {h : am_H} (H : ShM h) : m_gr h 70 0 27 = some (52, 0) := H.2.2.2.2.2.2.2.2.2.2.2.2.2.2.2.2.2.2.2.2.2.1
theorem pm_28 {h : am_H} (H : ShM h) : m_gr h 70 0 28 = some (53, 0) := H.2.2.2.2.2.2.2.2.2.2.2.2.2.2.2.2.2.2.2.2.2.2.1
theorem pm_31 {h : am_H} (H : ShM h) : m_gr h 70 0 31 = some (54, 0) := H.2.2.2.2.2.2.2.2.2.2.2.2.2.2.2.2.2.2.2.2.2.2.2.1
theorem pm_32 {h : am_H} (H : ShM h) : m_gr h 70 0 32 = some (55, 0) := H.2.2.2.2.2.2.2.2.2.2.2.2.2.2.2.2.2.2.2.2.2.2.2.2.1
theorem pm_33 {h : am_H} (H : ShM h) : m_gr h 70 0 33 = some (56, 0) := H.2.2.2.2.2.2.2.2.2.2.2.2.2.2.2.2.2.2.2.2.2.2.2.2.2.1
theorem pm_34 {h : am_H} (H : ShM h) : m_gr h 70 0 34 = some (57, 0) := H.2.2.2.2.2.2.2.2.2.2.2.2.2.2.2.2.2.2.2.2.2.2.2.2.2.2.1
theorem pm_35 {h : am_H} (H : ShM h) : m_gr h 70 0 35 = some (58, 0) := H.2.2.2.2.2.2.2.2.2.2.2.2.2.2.2.2.2.2.2.2.2.2.2.2.2.2.2.1
theorem pm_36 {h : am_H} (H : ShM h) : m_gr h 70 0 36 = some (59, 0) := H.2.2.2.2.2.2.2.2.2.2.2.2.2.2.2.2.2.2.2.2.2.2.2.2.2.2.2.2.1
theorem pm_38 {h : am_H} (H : ShM h) : m_gr h 70 0 38 = some (60, 0) := H.2.2.2.2.2.2.2.2.2.2.2.2.2.2.2.2.2.2.2.2.2.2.2.2.2.2.2.2.2.1
theorem pm_39 {h : am_H} (H : ShM h) : m_gr h 70 0 39 = some (61, 0) := H.2.2.2.2.2.2.2.2.2.2.2.2.2.2.2.2.2.2.2.2.2.2.2.2.2.2.2.2.2.2.1
theorem pm_40 {h : am_H} (H : ShM h) : m_gr h 70 0 40 = some (62, 0) := H.2.2.2.2.2.2.2.2.2.2.2.2.2.2.2.2.2.2.2.2.2.2.2.2.2.2.2.2.2.2.2.1
theorem pm_41 {h : am_H} (H : ShM h) : m_gr h 70 0 41 = some (63, 0) := H.2.2.2.2.2.2.2.2.2.2.2.2.2.2.2.2.2.2.2.2.2.2.2.2.2.2.2.2.2.2.2.2.1
theorem pm_42 {h : am_H} (H : ShM h) : m_gr h 70 0 42 = some (64, 0) := H.2.2.2.2.2.2.2.2.2.2.2.2.2.2.2.2.2.2.2.2.2.2.2.2.2.2.2.2.2.2.2.2.2.1
theorem pm_43 {h : am_H} (H : ShM h) : m_gr h 70 0 43 = some (65, 0) := H.2.2.2.2.2.2.2.2.2.2.2.2.2.2.2.2.2.2.2.2.2.2.2.2.2.2.2.2.2.2.2.2.2.2.1
theorem pm_44 {h : am_H} (H : ShM h) : m_gr h 70 0 44 = some (66, 0) := H.2.2.2.2.2.2.2.2.2.2.2.2.2.2.2.2.2.2.2.2.2.2.2.2.2.2.2.2.2.2.2.2.2.2.2.1
theorem pm_45 {h : am_H} (H : ShM h) : m_gr h 70 0 45 = some (67, 0) := H.2.2.2.2.2.2.2.2.2.2.2.2.2.2.2.2.2.2.2.2.2.2.2.2.2.2.2.2.2.2.2.2.2.2.2.2.1
theorem pm_46 {h : am_H} (H : ShM h) : m_gr h 70 0 46 = some (68, 0) := H.2.2.2.2.2.2.2.2.2.2.2.2.2.2.2.2.2.2.2.2.2.2.2.2.2.2.2.2.2.2.2.2.2.2.2.2.2
