/-! the unit pair never overflows: 42 cases, by the kernel -/
set_option maxRecDepth 100000 in
theorem uq_4 : unL 4 0 = true ∧ unL 4 1 = true := ⟨by decide +kernel, by decide +kernel⟩
set_option maxRecDepth 100000 in
theorem uq_5 : unL 5 0 = true ∧ unL 5 1 = true := ⟨by decide +kernel, by decide +kernel⟩
set_option maxRecDepth 100000 in
theorem uq_6 : unL 6 0 = true ∧ unL 6 1 = true := ⟨by decide +kernel, by decide +kernel⟩
set_option maxRecDepth 100000 in
theorem uq_7 : unL 7 0 = true ∧ unL 7 1 = true := ⟨by decide +kernel, by decide +kernel⟩
set_option maxRecDepth 100000 in
theorem uq_8 : unL 8 0 = true ∧ unL 8 1 = true := ⟨by decide +kernel, by decide +kernel⟩
set_option maxRecDepth 100000 in
theorem uq_9 : unL 9 0 = true ∧ unL 9 1 = true := ⟨by decide +kernel, by decide +kernel⟩
set_option maxRecDepth 100000 in
theorem uq_10 : unL 10 0 = true ∧ unL 10 1 = true := ⟨by decide +kernel, by decide +kernel⟩
set_option maxRecDepth 100000 in
theorem uq_11 : unL 11 0 = true ∧ unL 11 1 = true := ⟨by decide +kernel, by decide +kernel⟩
set_option maxRecDepth 100000 in
theorem uq_12 : unL 12 0 = true ∧ unL 12 1 = true := ⟨by decide +kernel, by decide +kernel⟩
set_option maxRecDepth 100000 in
theorem uq_13 : unL 13 0 = true ∧ unL 13 1 = true := ⟨by decide +kernel, by decide +kernel⟩
set_option maxRecDepth 100000 in
theorem uq_14 : unL 14 0 = true ∧ unL 14 1 = true := ⟨by decide +kernel, by decide +kernel⟩
set_option maxRecDepth 100000 in
theorem uq_15 : unL 15 0 = true ∧ unL 15 1 = true := ⟨by decide +kernel, by decide +kernel⟩
set_option maxRecDepth 100000 in
theorem uq_16 : unL 16 0 = true ∧ unL 16 1 = true := ⟨by decide +kernel, by decide +kernel⟩
set_option maxRecDepth 100000 in
theorem uq_17 : unL 17 0 = true ∧ unL 17 1 = true := ⟨by decide +kernel, by decide +kernel⟩
set_option maxRecDepth 100000 in
theorem uq_18 : unL 18 0 = true ∧ unL 18 1 = true := ⟨by decide +kernel, by decide +kernel⟩
set_option maxRecDepth 100000 in
theorem uq_19 : unL 19 0 = true ∧ unL 19 1 = true := ⟨by decide +kernel, by decide +kernel⟩
set_option maxRecDepth 100000 in
theorem uq_20 : unL 20 0 = true ∧ unL 20 1 = true := ⟨by decide +kernel, by decide +kernel⟩
set_option maxRecDepth 100000 in
theorem uq_21 : unL 21 0 = true ∧ unL 21 1 = true := ⟨by decide +kernel, by decide +kernel⟩
set_option maxRecDepth 100000 in
theorem uq_22 : unL 22 0 = true ∧ unL 22 1 = true := ⟨by decide +kernel, by decide +kernel⟩
set_option maxRecDepth 100000 in
theorem uq_23 : unL 23 0 = true ∧ unL 23 1 = true := ⟨by decide +kernel, by decide +kernel⟩
set_option maxRecDepth 100000 in
theorem uq_24 : unL 24 0 = true ∧ unL 24 1 = true := ⟨by decide +kernel, by decide +kernel⟩
theorem unOk : UnOk := fun N r h4 h24 hr => by
  refine un_all h24 ?_
  have hr2 : r = 0 ∨ r = 1 := by omega
  match N, h4, h24 with
  | 4, _, _ => rcases hr2 with rfl | rfl; exact uq_4.1; exact uq_4.2
  | 5, _, _ => rcases hr2 with rfl | rfl; exact uq_5.1; exact uq_5.2
  | 6, _, _ => rcases hr2 with rfl | rfl; exact uq_6.1; exact uq_6.2
  | 7, _, _ => rcases hr2 with rfl | rfl; exact uq_7.1; exact uq_7.2
  | 8, _, _ => rcases hr2 with rfl | rfl; exact uq_8.1; exact uq_8.2
  | 9, _, _ => rcases hr2 with rfl | rfl; exact uq_9.1; exact uq_9.2
  | 10, _, _ => rcases hr2 with rfl | rfl; exact uq_10.1; exact uq_10.2
  | 11, _, _ => rcases hr2 with rfl | rfl; exact uq_11.1; exact uq_11.2
  | 12, _, _ => rcases hr2 with rfl | rfl; exact uq_12.1; exact uq_12.2
  | 13, _, _ => rcases hr2 with rfl | rfl; exact uq_13.1; exact uq_13.2
  | 14, _, _ => rcases hr2 with rfl | rfl; exact uq_14.1; exact uq_14.2
  | 15, _, _ => rcases hr2 with rfl | rfl; exact uq_15.1; exact uq_15.2
  | 16, _, _ => rcases hr2 with rfl | rfl; exact uq_16.1; exact uq_16.2
  | 17, _, _ => rcases hr2 with rfl | rfl; exact uq_17.1; exact uq_17.2
  | 18, _, _ => rcases hr2 with rfl | rfl; exact uq_18.1; exact uq_18.2
  | 19, _, _ => rcases hr2 with rfl | rfl; exact uq_19.1; exact uq_19.2
  | 20, _, _ => rcases hr2 with rfl | rfl; exact uq_20.1; exact uq_20.2
  | 21, _, _ => rcases hr2 with rfl | rfl; exact uq_21.1; exact uq_21.2
  | 22, _, _ => rcases hr2 with rfl | rfl; exact uq_22.1; exact uq_22.2
  | 23, _, _ => rcases hr2 with rfl | rfl; exact uq_23.1; exact uq_23.2
  | 24, _, _ => rcases hr2 with rfl | rfl; exact uq_24.1; exact uq_24.2
  | 0, h, _ => omega
  | 1, h, _ => omega
  | 2, h, _ => omega
  | 3, h, _ => omega
  | N + 25, _, h => omega
