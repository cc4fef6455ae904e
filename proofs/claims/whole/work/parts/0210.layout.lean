def xl_A_ShowRings : List (Option Nat) := [some 1, some 9, some 3, some 4, some 5, some 6, some 7, some 8, some 23, none, none, none]
def xl_A_Tape : List (Option Nat) := [some 24, none]
def xl_A_Scanner : List (Option Nat) := [some 1, some 25, some 26, some 27, none]
def xl_A_Parser : List (Option Nat) := [some 2, some 10, none, none, none]
def xl_A_Kennel : List (Option Nat) := [some 28, some 29, some 30, some 31, some 32, some 33, some 34, some 35, some 36, some 37, some 38, none, none]
def xl_A_Facts : List (Option Nat) := [some 4, some 39, some 40, some 41, some 42, some 43, none]
def xl_A_Club : List (Option Nat) := [some 9, some 4, some 5, some 44]
def xl_A_Planner : List (Option Nat) := [some 4, some 6, some 45, some 46, some 47, some 21, some 22, none, none, none]
def xl_A_Results : List (Option Nat) := [some 4, some 5, some 6]
def xl_A_Text (i : Nat) : List (Option Nat) := [some (48 + i), some (50 + i), some (52 + i), some (54 + i), some (56 + i), some (58 + i), some (60 + i), some (62 + i), some (64 + i), none, none]
def xl_A_Show (i : Nat) : List (Option Nat) := [none, some (16 + i), none, none]
def xl_A_Timetable (i : Nat) : List (Option Nat) := [some (66 + i)]
def xl_A : List xw_E := [.inl (11, xl_A_ShowRings), .inl (8, xl_A_Tape), .inl (6, xl_A_Scanner), .inl (3, xl_A_Parser), .inl (2, xl_A_Kennel), .inl (1, xl_A_Facts), .inl (0, xl_A_Club), .inl (4, xl_A_Planner), .inl (5, xl_A_Results), .inl (9, xl_A_Text 0), .inl (9, xl_A_Text 1), .inl (7, xl_A_Show 0), .inl (7, xl_A_Show 1), .inl (7, xl_A_Show 2), .inl (7, xl_A_Show 3), .inl (7, xl_A_Show 4), .inl (10, xl_A_Timetable 0), .inl (10, xl_A_Timetable 1), .inl (10, xl_A_Timetable 2), .inl (10, xl_A_Timetable 3), .inl (10, xl_A_Timetable 4), .inl (10, xl_A_Timetable 5), .inl (10, xl_A_Timetable 6), .inr (4, 5, 11), .inr (0, 2000, 0), .inr (1, 401, 0), .inr (1, 401, 0), .inr (1, 401, 0), .inr (1, 12, 0), .inr (1, 12, 0), .inr (1, 6, 0), .inr (1, 6, 0), .inr (1, 6, 0), .inr (1, 6, 0), .inr (1, 20, 0), .inr (1, 20, 0), .inr (1, 20, 0), .inr (1, 20, 0), .inr (1, 20, 0), .inr (1, 200, 0), .inr (1, 200, 0), .inr (1, 200, 0), .inr (1, 200, 0), .inr (1, 200, 0), .inr (1, 9, 0), .inr (1, 6, 0), .inr (1, 6, 0), .inr (1, 6, 0), .inr (1, 16, 0), .inr (1, 16, 0), .inr (1, 16, 0), .inr (1, 16, 0), .inr (1, 16, 0), .inr (1, 16, 0), .inr (1, 16, 0), .inr (1, 16, 0), .inr (1, 16, 0), .inr (1, 16, 0), .inr (1, 16, 0), .inr (1, 16, 0), .inr (1, 400, 0), .inr (1, 400, 0), .inr (1, 400, 0), .inr (1, 400, 0), .inr (1, 400, 0), .inr (1, 400, 0), .inr (1, 24, 0), .inr (1, 24, 0), .inr (1, 24, 0), .inr (1, 24, 0), .inr (1, 24, 0), .inr (1, 24, 0), .inr (1, 24, 0)]
theorem xl_A_ShowRings_at : xl_A[0]? = some (.inl (11, xl_A_ShowRings)) := rfl
theorem xl_A_Tape_at : xl_A[1]? = some (.inl (8, xl_A_Tape)) := rfl
theorem xl_A_Scanner_at : xl_A[2]? = some (.inl (6, xl_A_Scanner)) := rfl
theorem xl_A_Parser_at : xl_A[3]? = some (.inl (3, xl_A_Parser)) := rfl
theorem xl_A_Kennel_at : xl_A[4]? = some (.inl (2, xl_A_Kennel)) := rfl
theorem xl_A_Facts_at : xl_A[5]? = some (.inl (1, xl_A_Facts)) := rfl
theorem xl_A_Club_at : xl_A[6]? = some (.inl (0, xl_A_Club)) := rfl
theorem xl_A_Planner_at : xl_A[7]? = some (.inl (4, xl_A_Planner)) := rfl
theorem xl_A_Results_at : xl_A[8]? = some (.inl (5, xl_A_Results)) := rfl
theorem xl_A_Text_at {i : Nat} (h : i < 2) : xl_A[9 + i]? = some (.inl (9, xl_A_Text i)) := by
  match i, h with
  | 0, _ => rfl
  | 1, _ => rfl
theorem xl_A_Show_at {i : Nat} (h : i < 5) : xl_A[11 + i]? = some (.inl (7, xl_A_Show i)) := by
  match i, h with
  | 0, _ => rfl
  | 1, _ => rfl
  | 2, _ => rfl
  | 3, _ => rfl
  | 4, _ => rfl
theorem xl_A_Timetable_at {i : Nat} (h : i < 7) : xl_A[16 + i]? = some (.inl (10, xl_A_Timetable i)) := by
  match i, h with
  | 0, _ => rfl
  | 1, _ => rfl
  | 2, _ => rfl
  | 3, _ => rfl
  | 4, _ => rfl
  | 5, _ => rfl
  | 6, _ => rfl
theorem xl_A_ShowRings_shows_at : xl_A[23]? = some (.inr (4, 5, 11)) := rfl
theorem xl_A_Tape_bytes_at : xl_A[24]? = some (.inr (0, 2000, 0)) := rfl
theorem xl_A_Scanner_kinds_at : xl_A[25]? = some (.inr (1, 401, 0)) := rfl
theorem xl_A_Scanner_places_at : xl_A[26]? = some (.inr (1, 401, 0)) := rfl
theorem xl_A_Scanner_values_at : xl_A[27]? = some (.inr (1, 401, 0)) := rfl
theorem xl_A_Kennel_kinBits_at : xl_A[28]? = some (.inr (1, 12, 0)) := rfl
theorem xl_A_Kennel_permits_at : xl_A[29]? = some (.inr (1, 12, 0)) := rfl
theorem xl_A_Kennel_group_at : xl_A[30]? = some (.inr (1, 6, 0)) := rfl
theorem xl_A_Kennel_minutes_at : xl_A[31]? = some (.inr (1, 6, 0)) := rfl
theorem xl_A_Kennel_heightFrom_at : xl_A[32]? = some (.inr (1, 6, 0)) := rfl
theorem xl_A_Kennel_heightTo_at : xl_A[33]? = some (.inr (1, 6, 0)) := rfl
theorem xl_A_Kennel_breed_at : xl_A[34]? = some (.inr (1, 20, 0)) := rfl
theorem xl_A_Kennel_birth_at : xl_A[35]? = some (.inr (1, 20, 0)) := rfl
theorem xl_A_Kennel_sex_at : xl_A[36]? = some (.inr (1, 20, 0)) := rfl
theorem xl_A_Kennel_firstOwner_at : xl_A[37]? = some (.inr (1, 20, 0)) := rfl
theorem xl_A_Kennel_handler_at : xl_A[38]? = some (.inr (1, 20, 0)) := rfl
theorem xl_A_Facts_kinds_at : xl_A[39]? = some (.inr (1, 200, 0)) := rfl
theorem xl_A_Facts_shows_at : xl_A[40]? = some (.inr (1, 200, 0)) := rfl
theorem xl_A_Facts_dogs_at : xl_A[41]? = some (.inr (1, 200, 0)) := rfl
theorem xl_A_Facts_values_at : xl_A[42]? = some (.inr (1, 200, 0)) := rfl
theorem xl_A_Facts_days_at : xl_A[43]? = some (.inr (1, 200, 0)) := rfl
theorem xl_A_Club_vars_at : xl_A[44]? = some (.inr (1, 9, 0)) := rfl
theorem xl_A_Planner_length_at : xl_A[45]? = some (.inr (1, 6, 0)) := rfl
theorem xl_A_Planner_judges_at : xl_A[46]? = some (.inr (1, 6, 0)) := rfl
theorem xl_A_Planner_handlers_at : xl_A[47]? = some (.inr (1, 6, 0)) := rfl
theorem xl_A_Text_kinds_at {i : Nat} (h : i < 2) : xl_A[48 + i]? = some (.inr (1, 16, 0)) := by
  match i, h with
  | 0, _ => rfl
  | 1, _ => rfl
theorem xl_A_Text_firstInt_at {i : Nat} (h : i < 2) : xl_A[50 + i]? = some (.inr (1, 16, 0)) := by
  match i, h with
  | 0, _ => rfl
  | 1, _ => rfl
theorem xl_A_Text_secondInt_at {i : Nat} (h : i < 2) : xl_A[52 + i]? = some (.inr (1, 16, 0)) := by
  match i, h with
  | 0, _ => rfl
  | 1, _ => rfl
theorem xl_A_Text_termFrom_at {i : Nat} (h : i < 2) : xl_A[54 + i]? = some (.inr (1, 16, 0)) := by
  match i, h with
  | 0, _ => rfl
  | 1, _ => rfl
theorem xl_A_Text_condFrom_at {i : Nat} (h : i < 2) : xl_A[56 + i]? = some (.inr (1, 16, 0)) := by
  match i, h with
  | 0, _ => rfl
  | 1, _ => rfl
theorem xl_A_Text_condTo_at {i : Nat} (h : i < 2) : xl_A[58 + i]? = some (.inr (1, 16, 0)) := by
  match i, h with
  | 0, _ => rfl
  | 1, _ => rfl
theorem xl_A_Text_steps_at {i : Nat} (h : i < 2) : xl_A[60 + i]? = some (.inr (1, 400, 0)) := by
  match i, h with
  | 0, _ => rfl
  | 1, _ => rfl
theorem xl_A_Text_numbers_at {i : Nat} (h : i < 2) : xl_A[62 + i]? = some (.inr (1, 400, 0)) := by
  match i, h with
  | 0, _ => rfl
  | 1, _ => rfl
theorem xl_A_Text_stack_at {i : Nat} (h : i < 2) : xl_A[64 + i]? = some (.inr (1, 400, 0)) := by
  match i, h with
  | 0, _ => rfl
  | 1, _ => rfl
theorem xl_A_Timetable_cells_at {i : Nat} (h : i < 7) : xl_A[66 + i]? = some (.inr (1, 24, 0)) := by
  match i, h with
  | 0, _ => rfl
  | 1, _ => rfl
  | 2, _ => rfl
  | 3, _ => rfl
  | 4, _ => rfl
  | 5, _ => rfl
  | 6, _ => rfl
def xl_B_ShowRingsModel : List (Option Nat) := [none, some 1, none, some 2, none, some 3, some 4, some 5, some 6, some 7, none, none, none, none, none, none, none, none, none, none, some 8, some 9, some 10, some 11, some 12, some 13, some 14, some 15, some 16, some 17, some 18, some 19, some 20, some 21, none, some 22, some 23, some 24, none, some 25, some 26, none, none, some 27, some 28, some 29, some 30, none, some 31, some 32, some 33, some 34, some 35, none, some 36, some 37, none, some 38, some 39, some 40, some 41, some 42, some 43, some 44, some 45, some 46, some 47, some 48, some 49, some 50, some 51, some 52, some 53, some 54, some 55, some 56, some 57]
def xl_B : List xw_E := [.inl (12, xl_B_ShowRingsModel), .inr (0, 2000, 0), .inr (0, 2000, 0), .inr (1, 403, 0), .inr (1, 403, 0), .inr (1, 403, 0), .inr (2, 403, 0), .inr (2, 16, 0), .inr (1, 2, 0), .inr (1, 32, 0), .inr (1, 32, 0), .inr (1, 32, 0), .inr (1, 32, 0), .inr (1, 32, 0), .inr (1, 32, 0), .inr (1, 32, 0), .inr (1, 2, 0), .inr (1, 400, 0), .inr (1, 400, 0), .inr (1, 400, 0), .inr (1, 400, 0), .inr (3, 400, 0), .inr (1, 1000, 0), .inr (1, 1000, 0), .inr (1, 48, 0), .inr (3, 144, 0), .inr (1, 12, 0), .inr (1, 6, 0), .inr (1, 6, 0), .inr (1, 6, 0), .inr (1, 6, 0), .inr (1, 20, 0), .inr (1, 20, 0), .inr (1, 20, 0), .inr (1, 20, 0), .inr (1, 20, 0), .inr (1, 5, 0), .inr (3, 100, 0), .inr (1, 200, 0), .inr (1, 200, 0), .inr (1, 200, 0), .inr (1, 200, 0), .inr (1, 9, 0), .inr (1, 500, 0), .inr (1, 30, 0), .inr (1, 30, 0), .inr (1, 30, 0), .inr (1, 30, 0), .inr (1, 6, 0), .inr (1, 6, 0), .inr (1, 6, 0), .inr (1, 6, 0), .inr (1, 6, 0), .inr (1, 6, 0), .inr (1, 6, 0), .inr (1, 6, 0), .inr (1, 6, 0), .inr (1, 6, 0)]
theorem xl_B_ShowRingsModel_at : xl_B[0]? = some (.inl (12, xl_B_ShowRingsModel)) := rfl
theorem xl_B_ShowRingsModel_tape_at : xl_B[1]? = some (.inr (0, 2000, 0)) := rfl
theorem xl_B_ShowRingsModel_text_at : xl_B[2]? = some (.inr (0, 2000, 0)) := rfl
theorem xl_B_ShowRingsModel_tKind_at : xl_B[3]? = some (.inr (1, 403, 0)) := rfl
theorem xl_B_ShowRingsModel_tPlace_at : xl_B[4]? = some (.inr (1, 403, 0)) := rfl
theorem xl_B_ShowRingsModel_tValue_at : xl_B[5]? = some (.inr (1, 403, 0)) := rfl
theorem xl_B_ShowRingsModel_tName_at : xl_B[6]? = some (.inr (2, 403, 0)) := rfl
theorem xl_B_ShowRingsModel_keys_at : xl_B[7]? = some (.inr (2, 16, 0)) := rfl
theorem xl_B_ShowRingsModel_rules_at : xl_B[8]? = some (.inr (1, 2, 0)) := rfl
theorem xl_B_ShowRingsModel_ruleSort_at : xl_B[9]? = some (.inr (1, 32, 0)) := rfl
theorem xl_B_ShowRingsModel_ruleInt_at : xl_B[10]? = some (.inr (1, 32, 0)) := rfl
theorem xl_B_ShowRingsModel_ruleUnder_at : xl_B[11]? = some (.inr (1, 32, 0)) := rfl
theorem xl_B_ShowRingsModel_ruleFrom_at : xl_B[12]? = some (.inr (1, 32, 0)) := rfl
theorem xl_B_ShowRingsModel_ruleTo_at : xl_B[13]? = some (.inr (1, 32, 0)) := rfl
theorem xl_B_ShowRingsModel_relFirst_at : xl_B[14]? = some (.inr (1, 32, 0)) := rfl
theorem xl_B_ShowRingsModel_relLast_at : xl_B[15]? = some (.inr (1, 32, 0)) := rfl
theorem xl_B_ShowRingsModel_relations_at : xl_B[16]? = some (.inr (1, 2, 0)) := rfl
theorem xl_B_ShowRingsModel_relSort_at : xl_B[17]? = some (.inr (1, 400, 0)) := rfl
theorem xl_B_ShowRingsModel_relLeft_at : xl_B[18]? = some (.inr (1, 400, 0)) := rfl
theorem xl_B_ShowRingsModel_relRight_at : xl_B[19]? = some (.inr (1, 400, 0)) := rfl
theorem xl_B_ShowRingsModel_relEnd_at : xl_B[20]? = some (.inr (1, 400, 0)) := rfl
theorem xl_B_ShowRingsModel_relOr_at : xl_B[21]? = some (.inr (3, 400, 0)) := rfl
theorem xl_B_ShowRingsModel_code_at : xl_B[22]? = some (.inr (1, 1000, 0)) := rfl
theorem xl_B_ShowRingsModel_codeInt_at : xl_B[23]? = some (.inr (1, 1000, 0)) := rfl
theorem xl_B_ShowRingsModel_waits_at : xl_B[24]? = some (.inr (1, 48, 0)) := rfl
theorem xl_B_ShowRingsModel_areKin_at : xl_B[25]? = some (.inr (3, 144, 0)) := rfl
theorem xl_B_ShowRingsModel_permits_at : xl_B[26]? = some (.inr (1, 12, 0)) := rfl
theorem xl_B_ShowRingsModel_group_at : xl_B[27]? = some (.inr (1, 6, 0)) := rfl
theorem xl_B_ShowRingsModel_minutes_at : xl_B[28]? = some (.inr (1, 6, 0)) := rfl
theorem xl_B_ShowRingsModel_heightFrom_at : xl_B[29]? = some (.inr (1, 6, 0)) := rfl
theorem xl_B_ShowRingsModel_heightTo_at : xl_B[30]? = some (.inr (1, 6, 0)) := rfl
theorem xl_B_ShowRingsModel_breedOf_at : xl_B[31]? = some (.inr (1, 20, 0)) := rfl
theorem xl_B_ShowRingsModel_birth_at : xl_B[32]? = some (.inr (1, 20, 0)) := rfl
theorem xl_B_ShowRingsModel_sex_at : xl_B[33]? = some (.inr (1, 20, 0)) := rfl
theorem xl_B_ShowRingsModel_firstOwner_at : xl_B[34]? = some (.inr (1, 20, 0)) := rfl
theorem xl_B_ShowRingsModel_handler_at : xl_B[35]? = some (.inr (1, 20, 0)) := rfl
theorem xl_B_ShowRingsModel_day_at : xl_B[36]? = some (.inr (1, 5, 0)) := rfl
theorem xl_B_ShowRingsModel_isEntry_at : xl_B[37]? = some (.inr (3, 100, 0)) := rfl
theorem xl_B_ShowRingsModel_factSort_at : xl_B[38]? = some (.inr (1, 200, 0)) := rfl
theorem xl_B_ShowRingsModel_factIn_at : xl_B[39]? = some (.inr (1, 200, 0)) := rfl
theorem xl_B_ShowRingsModel_factDog_at : xl_B[40]? = some (.inr (1, 200, 0)) := rfl
theorem xl_B_ShowRingsModel_factV_at : xl_B[41]? = some (.inr (1, 200, 0)) := rfl
theorem xl_B_ShowRingsModel_variables_at : xl_B[42]? = some (.inr (1, 9, 0)) := rfl
theorem xl_B_ShowRingsModel_pile_at : xl_B[43]? = some (.inr (1, 500, 0)) := rfl
theorem xl_B_ShowRingsModel_plannedRing_at : xl_B[44]? = some (.inr (1, 30, 0)) := rfl
theorem xl_B_ShowRingsModel_plannedJudge_at : xl_B[45]? = some (.inr (1, 30, 0)) := rfl
theorem xl_B_ShowRingsModel_plannedFrom_at : xl_B[46]? = some (.inr (1, 30, 0)) := rfl
theorem xl_B_ShowRingsModel_plannedTo_at : xl_B[47]? = some (.inr (1, 30, 0)) := rfl
theorem xl_B_ShowRingsModel_takes_at : xl_B[48]? = some (.inr (1, 6, 0)) := rfl
theorem xl_B_ShowRingsModel_mayJudge_at : xl_B[49]? = some (.inr (1, 6, 0)) := rfl
theorem xl_B_ShowRingsModel_handles_at : xl_B[50]? = some (.inr (1, 6, 0)) := rfl
theorem xl_B_ShowRingsModel_order_at : xl_B[51]? = some (.inr (1, 6, 0)) := rfl
theorem xl_B_ShowRingsModel_ring_at : xl_B[52]? = some (.inr (1, 6, 0)) := rfl
theorem xl_B_ShowRingsModel_judge_at : xl_B[53]? = some (.inr (1, 6, 0)) := rfl
theorem xl_B_ShowRingsModel_from_at : xl_B[54]? = some (.inr (1, 6, 0)) := rfl
theorem xl_B_ShowRingsModel_bestRing_at : xl_B[55]? = some (.inr (1, 6, 0)) := rfl
theorem xl_B_ShowRingsModel_bestJudge_at : xl_B[56]? = some (.inr (1, 6, 0)) := rfl
theorem xl_B_ShowRingsModel_bestFrom_at : xl_B[57]? = some (.inr (1, 6, 0)) := rfl
theorem xt_inX11 : ∀ w ∈ u_ws RX11 TX11 12, w ∈ xw_T := by
  intro w hw
  obtain ⟨k, hk, rfl⟩ := List.mem_map.mp hw
  have hk := List.mem_range.mp hk
  match k, hk with
  | 0, _ => exact xt_2_124
  | 1, _ => exact xt_2_126
  | 2, _ => exact xt_2_128
  | 3, _ => exact xt_2_130
  | 4, _ => exact xt_2_132
  | 5, _ => exact xt_2_134
  | 6, _ => exact xt_2_136
  | 7, _ => exact xt_2_138
  | 8, _ => exact xt_2_140
  | 9, _ => exact xt_2_142
  | 10, _ => exact xt_2_144
  | 11, _ => exact xt_2_146
  | k + 12, h => exact absurd h (by omega)
theorem xt_inX8 : ∀ w ∈ u_ws RX8 TX8 2, w ∈ xw_T := by
  intro w hw
  obtain ⟨k, hk, rfl⟩ := List.mem_map.mp hw
  have hk := List.mem_range.mp hk
  match k, hk with
  | 0, _ => exact xt_1_39
  | 1, _ => exact xt_1_41
  | k + 2, h => exact absurd h (by omega)
theorem xt_inX6 : ∀ w ∈ u_ws RX6 TX6 5, w ∈ xw_T := by
  intro w hw
  obtain ⟨k, hk, rfl⟩ := List.mem_map.mp hw
  have hk := List.mem_range.mp hk
  match k, hk with
  | 0, _ => exact xt_1_109
  | 1, _ => exact xt_1_111
  | 2, _ => exact xt_1_113
  | 3, _ => exact xt_1_115
  | 4, _ => exact xt_1_117
  | k + 5, h => exact absurd h (by omega)
theorem xt_inX3 : ∀ w ∈ u_ws RX3 TX3 5, w ∈ xw_T := by
  intro w hw
  obtain ⟨k, hk, rfl⟩ := List.mem_map.mp hw
  have hk := List.mem_range.mp hk
  match k, hk with
  | 0, _ => exact xt_1_132
  | 1, _ => exact xt_1_134
  | 2, _ => exact xt_1_136
  | 3, _ => exact xt_1_138
  | 4, _ => exact xt_1_140
  | k + 5, h => exact absurd h (by omega)
theorem xt_inX2 : ∀ w ∈ u_ws RX2 TX2 13, w ∈ xw_T := by
  intro w hw
  obtain ⟨k, hk, rfl⟩ := List.mem_map.mp hw
  have hk := List.mem_range.mp hk
  match k, hk with
  | 0, _ => exact xt_1_179
  | 1, _ => exact xt_1_181
  | 2, _ => exact xt_1_183
  | 3, _ => exact xt_1_185
  | 4, _ => exact xt_1_187
  | 5, _ => exact xt_1_189
  | 6, _ => exact xt_1_191
  | 7, _ => exact xt_1_193
  | 8, _ => exact xt_1_195
  | 9, _ => exact xt_1_197
  | 10, _ => exact xt_1_199
  | 11, _ => exact xt_1_201
  | 12, _ => exact xt_1_203
  | k + 13, h => exact absurd h (by omega)
theorem xt_inX1 : ∀ w ∈ u_ws RX1 TX1 7, w ∈ xw_T := by
  intro w hw
  obtain ⟨k, hk, rfl⟩ := List.mem_map.mp hw
  have hk := List.mem_range.mp hk
  match k, hk with
  | 0, _ => exact xt_1_220
  | 1, _ => exact xt_1_222
  | 2, _ => exact xt_1_224
  | 3, _ => exact xt_1_226
  | 4, _ => exact xt_1_228
  | 5, _ => exact xt_1_230
  | 6, _ => exact xt_1_232
  | k + 7, h => exact absurd h (by omega)
theorem xt_inX0 : ∀ w ∈ u_ws RX0 TX0 4, w ∈ xw_T := by
  intro w hw
  obtain ⟨k, hk, rfl⟩ := List.mem_map.mp hw
  have hk := List.mem_range.mp hk
  match k, hk with
  | 0, _ => exact xt_2_5
  | 1, _ => exact xt_2_7
  | 2, _ => exact xt_2_9
  | 3, _ => exact xt_2_11
  | k + 4, h => exact absurd h (by omega)
theorem xt_inX4 : ∀ w ∈ u_ws RX4 TX4 10, w ∈ xw_T := by
  intro w hw
  obtain ⟨k, hk, rfl⟩ := List.mem_map.mp hw
  have hk := List.mem_range.mp hk
  match k, hk with
  | 0, _ => exact xt_2_46
  | 1, _ => exact xt_2_48
  | 2, _ => exact xt_2_50
  | 3, _ => exact xt_2_52
  | 4, _ => exact xt_2_54
  | 5, _ => exact xt_2_56
  | 6, _ => exact xt_2_58
  | 7, _ => exact xt_2_60
  | 8, _ => exact xt_2_62
  | 9, _ => exact xt_2_64
  | k + 10, h => exact absurd h (by omega)
theorem xt_inX5 : ∀ w ∈ u_ws RX5 TX5 3, w ∈ xw_T := by
  intro w hw
  obtain ⟨k, hk, rfl⟩ := List.mem_map.mp hw
  have hk := List.mem_range.mp hk
  match k, hk with
  | 0, _ => exact xt_2_76
  | 1, _ => exact xt_2_78
  | 2, _ => exact xt_2_80
  | k + 3, h => exact absurd h (by omega)
theorem xt_inX9 : ∀ w ∈ u_ws RX9 TX9 11, w ∈ xw_T := by
  intro w hw
  obtain ⟨k, hk, rfl⟩ := List.mem_map.mp hw
  have hk := List.mem_range.mp hk
  match k, hk with
  | 0, _ => exact xt_1_68
  | 1, _ => exact xt_1_70
  | 2, _ => exact xt_1_72
  | 3, _ => exact xt_1_74
  | 4, _ => exact xt_1_76
  | 5, _ => exact xt_1_78
  | 6, _ => exact xt_1_80
  | 7, _ => exact xt_1_82
  | 8, _ => exact xt_1_84
  | 9, _ => exact xt_1_86
  | 10, _ => exact xt_1_88
  | k + 11, h => exact absurd h (by omega)
theorem xt_inX7 : ∀ w ∈ u_ws RX7 TX7 4, w ∈ xw_T := by
  intro w hw
  obtain ⟨k, hk, rfl⟩ := List.mem_map.mp hw
  have hk := List.mem_range.mp hk
  match k, hk with
  | 0, _ => exact xt_2_103
  | 1, _ => exact xt_2_105
  | 2, _ => exact xt_2_107
  | 3, _ => exact xt_2_109
  | k + 4, h => exact absurd h (by omega)
theorem xt_inX10 : ∀ w ∈ u_ws RX10 TX10 1, w ∈ xw_T := by
  intro w hw
  obtain ⟨k, hk, rfl⟩ := List.mem_map.mp hw
  have hk := List.mem_range.mp hk
  match k, hk with
  | 0, _ => exact xt_2_31
  | k + 1, h => exact absurd h (by omega)
theorem xt_inX12 : ∀ w ∈ u_ws RX12 TX12 77, w ∈ xw_T := by
  intro w hw
  obtain ⟨k, hk, rfl⟩ := List.mem_map.mp hw
  have hk := List.mem_range.mp hk
  match k, hk with
  | 0, _ => exact xt_5_9
  | 1, _ => exact xt_5_11
  | 2, _ => exact xt_5_13
  | 3, _ => exact xt_5_15
  | 4, _ => exact xt_5_17
  | 5, _ => exact xt_5_19
  | 6, _ => exact xt_5_21
  | 7, _ => exact xt_5_23
  | 8, _ => exact xt_5_25
  | 9, _ => exact xt_5_27
  | 10, _ => exact xt_5_29
  | 11, _ => exact xt_5_31
  | 12, _ => exact xt_5_33
  | 13, _ => exact xt_5_35
  | 14, _ => exact xt_5_37
  | 15, _ => exact xt_5_39
  | 16, _ => exact xt_5_41
  | 17, _ => exact xt_5_43
  | 18, _ => exact xt_5_45
  | 19, _ => exact xt_5_47
  | 20, _ => exact xt_5_49
  | 21, _ => exact xt_5_51
  | 22, _ => exact xt_5_53
  | 23, _ => exact xt_5_55
  | 24, _ => exact xt_5_57
  | 25, _ => exact xt_5_59
  | 26, _ => exact xt_5_61
  | 27, _ => exact xt_5_63
  | 28, _ => exact xt_5_65
  | 29, _ => exact xt_5_67
  | 30, _ => exact xt_5_69
  | 31, _ => exact xt_5_71
  | 32, _ => exact xt_5_73
  | 33, _ => exact xt_5_75
  | 34, _ => exact xt_5_77
  | 35, _ => exact xt_5_79
  | 36, _ => exact xt_5_81
  | 37, _ => exact xt_5_83
  | 38, _ => exact xt_5_85
  | 39, _ => exact xt_5_87
  | 40, _ => exact xt_5_89
  | 41, _ => exact xt_5_91
  | 42, _ => exact xt_5_93
  | 43, _ => exact xt_5_95
  | 44, _ => exact xt_5_97
  | 45, _ => exact xt_5_99
  | 46, _ => exact xt_5_101
  | 47, _ => exact xt_5_103
  | 48, _ => exact xt_5_105
  | 49, _ => exact xt_5_107
  | 50, _ => exact xt_5_109
  | 51, _ => exact xt_5_111
  | 52, _ => exact xt_5_113
  | 53, _ => exact xt_5_115
  | 54, _ => exact xt_5_117
  | 55, _ => exact xt_5_119
  | 56, _ => exact xt_5_121
  | 57, _ => exact xt_5_123
  | 58, _ => exact xt_5_125
  | 59, _ => exact xt_5_127
  | 60, _ => exact xt_5_129
  | 61, _ => exact xt_5_131
  | 62, _ => exact xt_5_133
  | 63, _ => exact xt_5_135
  | 64, _ => exact xt_5_137
  | 65, _ => exact xt_5_139
  | 66, _ => exact xt_5_141
  | 67, _ => exact xt_5_143
  | 68, _ => exact xt_5_145
  | 69, _ => exact xt_5_147
  | 70, _ => exact xt_5_149
  | 71, _ => exact xt_5_151
  | 72, _ => exact xt_5_153
  | 73, _ => exact xt_5_155
  | 74, _ => exact xt_5_157
  | 75, _ => exact xt_5_159
  | 76, _ => exact xt_5_161
  | k + 77, h => exact absurd h (by omega)
