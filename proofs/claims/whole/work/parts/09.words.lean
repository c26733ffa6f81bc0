theorem mem_pl {ws : List Cond} (ps : List Nat) (hp : ws = ps.filterMap (fun i => lw_tbl[i]?)) (hg : ws.all goodWord = true) : ∀ w ∈ ws, w ∈ lwg := by
  intro w hw
  have h1 := List.all_eq_true.mp hg w hw
  rw [hp] at hw
  obtain ⟨i, -, hi⟩ := List.mem_filterMap.mp hw
  exact lwg_mem i hi h1
theorem ciX0 : CI 0 RX0 TX0 3 tyX0 := ⟨rfl, mem_pl [371, 373, 375] (by decide +kernel) (by decide +kernel), tyX0_ok, nmX0⟩
theorem ciX2 : CI 2 RX2 TX2 3 tyX2 := ⟨rfl, mem_pl [393, 395, 397] (by decide +kernel) (by decide +kernel), tyX2_ok, nmX2⟩
theorem ciX3 : CI 3 RX3 TX3 2 tyX3 := ⟨rfl, mem_pl [272, 274] (by decide +kernel) (by decide +kernel), tyX3_ok, nmX3⟩
theorem ciX4 : CI 4 RX4 TX4 11 tyX4 := ⟨rfl, mem_pl [160, 162, 164, 166, 168, 170, 172, 174, 176, 178, 180] (by decide +kernel) (by decide +kernel), tyX4_ok, nmX4⟩
theorem ciX6 : CI 5 RX6 TX6 3 tyX6 := ⟨rfl, mem_pl [336, 338, 340] (by decide +kernel) (by decide +kernel), tyX6_ok, nmX6⟩
theorem ciX7 : CI 6 RX7 TX7 4 tyX7 := ⟨rfl, mem_pl [287, 289, 291, 293] (by decide +kernel) (by decide +kernel), tyX7_ok, nmX7⟩
theorem ciX8 : CI 7 RX8 TX8 5 tyX8 := ⟨rfl, mem_pl [93, 95, 97, 99, 101] (by decide +kernel) (by decide +kernel), tyX8_ok, nmX8⟩
theorem ciX9 : CI 8 RX9 TX9 6 tyX9 := ⟨rfl, mem_pl [310, 312, 314, 316, 318, 320] (by decide +kernel) (by decide +kernel), tyX9_ok, nmX9⟩
theorem ciX10 : CI 9 RX10 TX10 11 tyX10 := ⟨rfl, mem_pl [238, 240, 242, 244, 246, 248, 250, 252, 254, 256, 258] (by decide +kernel) (by decide +kernel), tyX10_ok, nmX10⟩
theorem ciX11 : CI 10 RX11 TX11 3 tyX11 := ⟨rfl, mem_pl [353, 355, 357] (by decide +kernel) (by decide +kernel), tyX11_ok, nmX11⟩
theorem ciX12 : CI 11 RX12 TX12 10 tyX12 := ⟨rfl, mem_pl [410, 412, 414, 416, 418, 420, 422, 424, 426, 428] (by decide +kernel) (by decide +kernel), tyX12_ok, nmX12⟩
theorem ciX13 : CI 12 RX13 TX13 38 tyX13 := ⟨rfl, mem_pl [901, 903, 905, 907, 909, 911, 913, 915, 917, 919, 921, 923, 925, 927, 929, 931, 933, 935, 937, 939, 941, 943, 945, 947, 949, 951, 953, 955, 957, 959, 961, 963, 965, 967, 969, 971, 973, 975] (by decide +kernel) (by decide +kernel), tyX13_ok, nmX13⟩
theorem flX8_9 : Fl RX8 9 7 0 (.array .char) 1 := ⟨RX8, TX8, 5, tyX8, ciX8, by decide, lwg_mem 86 (by decide +kernel) rfl, rfl, (fun z => by cases z), fun _ => ⟨rfl, rfl⟩⟩
theorem flX8_19 : Fl RX8 19 7 1 .int 0 := ⟨RX8, TX8, 5, tyX8, ciX8, by decide, lwg_mem 87 (by decide +kernel) rfl, rfl, fun _ => rfl, (fun z => by cases z)⟩
theorem flX12_73 : Fl RX12 73 7 1 .int 0 := ⟨RX8, TX8, 5, tyX8, ciX8, by decide, lwg_mem 88 (by decide +kernel) rfl, rfl, fun _ => rfl, (fun z => by cases z)⟩
theorem flX8_15 : Fl RX8 15 7 2 .int 0 := ⟨RX8, TX8, 5, tyX8, ciX8, by decide, lwg_mem 89 (by decide +kernel) rfl, rfl, fun _ => rfl, (fun z => by cases z)⟩
theorem flX12_107 : Fl RX12 107 7 2 .int 0 := ⟨RX8, TX8, 5, tyX8, ciX8, by decide, lwg_mem 90 (by decide +kernel) rfl, rfl, fun _ => rfl, (fun z => by cases z)⟩
theorem flX8_30 : Fl RX8 30 7 3 .int 0 := ⟨RX8, TX8, 5, tyX8, ciX8, by decide, lwg_mem 91 (by decide +kernel) rfl, rfl, fun _ => rfl, (fun z => by cases z)⟩
theorem flX8_27 : Fl RX8 27 7 4 .int 0 := ⟨RX8, TX8, 5, tyX8, ciX8, by decide, lwg_mem 92 (by decide +kernel) rfl, rfl, fun _ => rfl, (fun z => by cases z)⟩
theorem flX4_9 : Fl RX4 9 4 0 (.array .int) 1 := ⟨RX4, TX4, 11, tyX4, ciX4, by decide, lwg_mem 117 (by decide +kernel) rfl, rfl, (fun z => by cases z), fun _ => ⟨rfl, rfl⟩⟩
theorem flX3_38 : Fl RX3 38 4 0 (.array .int) 2 := ⟨RX4, TX4, 11, tyX4, ciX4, by decide, lwg_mem 118 (by decide +kernel) rfl, rfl, (fun z => by cases z), (fun z => by cases z)⟩
theorem flX12_175 : Fl RX12 175 4 0 (.array .int) 2 := ⟨RX4, TX4, 11, tyX4, ciX4, by decide, lwg_mem 119 (by decide +kernel) rfl, rfl, (fun z => by cases z), (fun z => by cases z)⟩
theorem flX5_59 : Fl RX5 59 4 0 (.array .int) 2 := ⟨RX4, TX4, 11, tyX4, ciX4, by decide, lwg_mem 120 (by decide +kernel) rfl, rfl, (fun z => by cases z), (fun z => by cases z)⟩
theorem flX4_15 : Fl RX4 15 4 1 (.array .int) 1 := ⟨RX4, TX4, 11, tyX4, ciX4, by decide, lwg_mem 121 (by decide +kernel) rfl, rfl, (fun z => by cases z), fun _ => ⟨rfl, rfl⟩⟩
theorem flX5_25 : Fl RX5 25 4 1 (.array .int) 2 := ⟨RX4, TX4, 11, tyX4, ciX4, by decide, lwg_mem 122 (by decide +kernel) rfl, rfl, (fun z => by cases z), (fun z => by cases z)⟩
theorem flX3_43 : Fl RX3 43 4 1 (.array .int) 2 := ⟨RX4, TX4, 11, tyX4, ciX4, by decide, lwg_mem 123 (by decide +kernel) rfl, rfl, (fun z => by cases z), (fun z => by cases z)⟩
theorem flX9_61 : Fl RX9 61 4 1 (.array .int) 2 := ⟨RX4, TX4, 11, tyX4, ciX4, by decide, lwg_mem 124 (by decide +kernel) rfl, rfl, (fun z => by cases z), (fun z => by cases z)⟩
theorem flX0_22 : Fl RX0 22 4 1 (.array .int) 2 := ⟨RX4, TX4, 11, tyX4, ciX4, by decide, lwg_mem 125 (by decide +kernel) rfl, rfl, (fun z => by cases z), (fun z => by cases z)⟩
theorem flX11_38 : Fl RX11 38 4 1 (.array .int) 2 := ⟨RX4, TX4, 11, tyX4, ciX4, by decide, lwg_mem 126 (by decide +kernel) rfl, rfl, (fun z => by cases z), (fun z => by cases z)⟩
theorem flX12_178 : Fl RX12 178 4 1 (.array .int) 2 := ⟨RX4, TX4, 11, tyX4, ciX4, by decide, lwg_mem 127 (by decide +kernel) rfl, rfl, (fun z => by cases z), (fun z => by cases z)⟩
theorem flX4_18 : Fl RX4 18 4 2 (.array .int) 1 := ⟨RX4, TX4, 11, tyX4, ciX4, by decide, lwg_mem 128 (by decide +kernel) rfl, rfl, (fun z => by cases z), fun _ => ⟨rfl, rfl⟩⟩
theorem flX9_55 : Fl RX9 55 4 2 (.array .int) 2 := ⟨RX4, TX4, 11, tyX4, ciX4, by decide, lwg_mem 129 (by decide +kernel) rfl, rfl, (fun z => by cases z), (fun z => by cases z)⟩
theorem flX12_181 : Fl RX12 181 4 2 (.array .int) 2 := ⟨RX4, TX4, 11, tyX4, ciX4, by decide, lwg_mem 130 (by decide +kernel) rfl, rfl, (fun z => by cases z), (fun z => by cases z)⟩
theorem flX3_99 : Fl RX3 99 4 2 (.array .int) 2 := ⟨RX4, TX4, 11, tyX4, ciX4, by decide, lwg_mem 131 (by decide +kernel) rfl, rfl, (fun z => by cases z), (fun z => by cases z)⟩
theorem flX4_21 : Fl RX4 21 4 3 (.array .int) 1 := ⟨RX4, TX4, 11, tyX4, ciX4, by decide, lwg_mem 132 (by decide +kernel) rfl, rfl, (fun z => by cases z), fun _ => ⟨rfl, rfl⟩⟩
theorem flX9_58 : Fl RX9 58 4 3 (.array .int) 2 := ⟨RX4, TX4, 11, tyX4, ciX4, by decide, lwg_mem 133 (by decide +kernel) rfl, rfl, (fun z => by cases z), (fun z => by cases z)⟩
theorem flX12_184 : Fl RX12 184 4 3 (.array .int) 2 := ⟨RX4, TX4, 11, tyX4, ciX4, by decide, lwg_mem 134 (by decide +kernel) rfl, rfl, (fun z => by cases z), (fun z => by cases z)⟩
theorem flX3_112 : Fl RX3 112 4 3 (.array .int) 2 := ⟨RX4, TX4, 11, tyX4, ciX4, by decide, lwg_mem 135 (by decide +kernel) rfl, rfl, (fun z => by cases z), (fun z => by cases z)⟩
theorem flX4_24 : Fl RX4 24 4 4 (.array .int) 1 := ⟨RX4, TX4, 11, tyX4, ciX4, by decide, lwg_mem 136 (by decide +kernel) rfl, rfl, (fun z => by cases z), fun _ => ⟨rfl, rfl⟩⟩
theorem flX9_38 : Fl RX9 38 4 4 (.array .int) 2 := ⟨RX4, TX4, 11, tyX4, ciX4, by decide, lwg_mem 137 (by decide +kernel) rfl, rfl, (fun z => by cases z), (fun z => by cases z)⟩
theorem flX3_52 : Fl RX3 52 4 4 (.array .int) 2 := ⟨RX4, TX4, 11, tyX4, ciX4, by decide, lwg_mem 138 (by decide +kernel) rfl, rfl, (fun z => by cases z), (fun z => by cases z)⟩
theorem flX5_38 : Fl RX5 38 4 4 (.array .int) 2 := ⟨RX4, TX4, 11, tyX4, ciX4, by decide, lwg_mem 139 (by decide +kernel) rfl, rfl, (fun z => by cases z), (fun z => by cases z)⟩
theorem flX12_202 : Fl RX12 202 4 4 (.array .int) 2 := ⟨RX4, TX4, 11, tyX4, ciX4, by decide, lwg_mem 140 (by decide +kernel) rfl, rfl, (fun z => by cases z), (fun z => by cases z)⟩
theorem flX4_27 : Fl RX4 27 4 5 (.array .int) 1 := ⟨RX4, TX4, 11, tyX4, ciX4, by decide, lwg_mem 141 (by decide +kernel) rfl, rfl, (fun z => by cases z), fun _ => ⟨rfl, rfl⟩⟩
theorem flX3_81 : Fl RX3 81 4 5 (.array .int) 2 := ⟨RX4, TX4, 11, tyX4, ciX4, by decide, lwg_mem 142 (by decide +kernel) rfl, rfl, (fun z => by cases z), (fun z => by cases z)⟩
theorem flX12_208 : Fl RX12 208 4 5 (.array .int) 2 := ⟨RX4, TX4, 11, tyX4, ciX4, by decide, lwg_mem 143 (by decide +kernel) rfl, rfl, (fun z => by cases z), (fun z => by cases z)⟩
theorem flX4_30 : Fl RX4 30 4 6 (.array .int) 1 := ⟨RX4, TX4, 11, tyX4, ciX4, by decide, lwg_mem 144 (by decide +kernel) rfl, rfl, (fun z => by cases z), fun _ => ⟨rfl, rfl⟩⟩
theorem flX3_56 : Fl RX3 56 4 6 (.array .int) 2 := ⟨RX4, TX4, 11, tyX4, ciX4, by decide, lwg_mem 145 (by decide +kernel) rfl, rfl, (fun z => by cases z), (fun z => by cases z)⟩
theorem flX12_211 : Fl RX12 211 4 6 (.array .int) 2 := ⟨RX4, TX4, 11, tyX4, ciX4, by decide, lwg_mem 146 (by decide +kernel) rfl, rfl, (fun z => by cases z), (fun z => by cases z)⟩
theorem flX4_39 : Fl RX4 39 4 7 .int 0 := ⟨RX4, TX4, 11, tyX4, ciX4, by decide, lwg_mem 147 (by decide +kernel) rfl, rfl, fun _ => rfl, (fun z => by cases z)⟩
theorem flX12_128 : Fl RX12 128 4 7 .int 0 := ⟨RX4, TX4, 11, tyX4, ciX4, by decide, lwg_mem 148 (by decide +kernel) rfl, rfl, fun _ => rfl, (fun z => by cases z)⟩
theorem flX3_69 : Fl RX3 69 4 7 .int 0 := ⟨RX4, TX4, 11, tyX4, ciX4, by decide, lwg_mem 149 (by decide +kernel) rfl, rfl, fun _ => rfl, (fun z => by cases z)⟩
theorem flX3_25 : Fl RX3 25 4 8 .int 0 := ⟨RX4, TX4, 11, tyX4, ciX4, by decide, lwg_mem 150 (by decide +kernel) rfl, rfl, fun _ => rfl, (fun z => by cases z)⟩
theorem flX4_43 : Fl RX4 43 4 8 .int 0 := ⟨RX4, TX4, 11, tyX4, ciX4, by decide, lwg_mem 151 (by decide +kernel) rfl, rfl, fun _ => rfl, (fun z => by cases z)⟩
theorem flX12_123 : Fl RX12 123 4 8 .int 0 := ⟨RX4, TX4, 11, tyX4, ciX4, by decide, lwg_mem 152 (by decide +kernel) rfl, rfl, fun _ => rfl, (fun z => by cases z)⟩
theorem flX5_53 : Fl RX5 53 4 8 .int 0 := ⟨RX4, TX4, 11, tyX4, ciX4, by decide, lwg_mem 153 (by decide +kernel) rfl, rfl, fun _ => rfl, (fun z => by cases z)⟩
theorem flX3_29 : Fl RX3 29 4 9 .int 0 := ⟨RX4, TX4, 11, tyX4, ciX4, by decide, lwg_mem 154 (by decide +kernel) rfl, rfl, fun _ => rfl, (fun z => by cases z)⟩
theorem flX4_46 : Fl RX4 46 4 9 .int 0 := ⟨RX4, TX4, 11, tyX4, ciX4, by decide, lwg_mem 155 (by decide +kernel) rfl, rfl, fun _ => rfl, (fun z => by cases z)⟩
theorem flX12_137 : Fl RX12 137 4 9 .int 0 := ⟨RX4, TX4, 11, tyX4, ciX4, by decide, lwg_mem 156 (by decide +kernel) rfl, rfl, fun _ => rfl, (fun z => by cases z)⟩
theorem flX3_32 : Fl RX3 32 4 10 .int 0 := ⟨RX4, TX4, 11, tyX4, ciX4, by decide, lwg_mem 157 (by decide +kernel) rfl, rfl, fun _ => rfl, (fun z => by cases z)⟩
theorem flX4_49 : Fl RX4 49 4 10 .int 0 := ⟨RX4, TX4, 11, tyX4, ciX4, by decide, lwg_mem 158 (by decide +kernel) rfl, rfl, fun _ => rfl, (fun z => by cases z)⟩
theorem flX12_140 : Fl RX12 140 4 10 .int 0 := ⟨RX4, TX4, 11, tyX4, ciX4, by decide, lwg_mem 159 (by decide +kernel) rfl, rfl, fun _ => rfl, (fun z => by cases z)⟩
theorem flX10_9 : Fl RX10 9 9 0 (.array .int) 1 := ⟨RX10, TX10, 11, tyX10, ciX10, by decide, lwg_mem 190 (by decide +kernel) rfl, rfl, (fun z => by cases z), fun _ => ⟨rfl, rfl⟩⟩
theorem flX8_70 : Fl RX8 70 9 0 (.array .int) 2 := ⟨RX10, TX10, 11, tyX10, ciX10, by decide, lwg_mem 191 (by decide +kernel) rfl, rfl, (fun z => by cases z), (fun z => by cases z)⟩
theorem flX12_171 : Fl RX12 171 9 0 (.array .int) 2 := ⟨RX10, TX10, 11, tyX10, ciX10, by decide, lwg_mem 192 (by decide +kernel) rfl, rfl, (fun z => by cases z), (fun z => by cases z)⟩
theorem flX3_90 : Fl RX3 90 9 0 (.array .int) 2 := ⟨RX10, TX10, 11, tyX10, ciX10, by decide, lwg_mem 193 (by decide +kernel) rfl, rfl, (fun z => by cases z), (fun z => by cases z)⟩
theorem flX10_15 : Fl RX10 15 9 1 (.array .int) 1 := ⟨RX10, TX10, 11, tyX10, ciX10, by decide, lwg_mem 194 (by decide +kernel) rfl, rfl, (fun z => by cases z), fun _ => ⟨rfl, rfl⟩⟩
theorem flX3_42 : Fl RX3 42 9 1 (.array .int) 2 := ⟨RX10, TX10, 11, tyX10, ciX10, by decide, lwg_mem 195 (by decide +kernel) rfl, rfl, (fun z => by cases z), (fun z => by cases z)⟩
theorem flX8_74 : Fl RX8 74 9 1 (.array .int) 2 := ⟨RX10, TX10, 11, tyX10, ciX10, by decide, lwg_mem 196 (by decide +kernel) rfl, rfl, (fun z => by cases z), (fun z => by cases z)⟩
theorem flX10_18 : Fl RX10 18 9 2 (.array .int) 1 := ⟨RX10, TX10, 11, tyX10, ciX10, by decide, lwg_mem 197 (by decide +kernel) rfl, rfl, (fun z => by cases z), fun _ => ⟨rfl, rfl⟩⟩
theorem flX3_46 : Fl RX3 46 9 2 (.array .int) 2 := ⟨RX10, TX10, 11, tyX10, ciX10, by decide, lwg_mem 198 (by decide +kernel) rfl, rfl, (fun z => by cases z), (fun z => by cases z)⟩
theorem flX8_77 : Fl RX8 77 9 2 (.array .int) 2 := ⟨RX10, TX10, 11, tyX10, ciX10, by decide, lwg_mem 199 (by decide +kernel) rfl, rfl, (fun z => by cases z), (fun z => by cases z)⟩
theorem flX10_21 : Fl RX10 21 9 3 (.array .int) 1 := ⟨RX10, TX10, 11, tyX10, ciX10, by decide, lwg_mem 200 (by decide +kernel) rfl, rfl, (fun z => by cases z), fun _ => ⟨rfl, rfl⟩⟩
theorem flX8_80 : Fl RX8 80 9 3 (.array .int) 2 := ⟨RX10, TX10, 11, tyX10, ciX10, by decide, lwg_mem 201 (by decide +kernel) rfl, rfl, (fun z => by cases z), (fun z => by cases z)⟩
theorem flX12_186 : Fl RX12 186 9 3 (.array .int) 2 := ⟨RX10, TX10, 11, tyX10, ciX10, by decide, lwg_mem 202 (by decide +kernel) rfl, rfl, (fun z => by cases z), (fun z => by cases z)⟩
theorem flX3_93 : Fl RX3 93 9 3 (.array .int) 2 := ⟨RX10, TX10, 11, tyX10, ciX10, by decide, lwg_mem 203 (by decide +kernel) rfl, rfl, (fun z => by cases z), (fun z => by cases z)⟩
theorem flX10_24 : Fl RX10 24 9 4 (.array .int) 1 := ⟨RX10, TX10, 11, tyX10, ciX10, by decide, lwg_mem 204 (by decide +kernel) rfl, rfl, (fun z => by cases z), fun _ => ⟨rfl, rfl⟩⟩
theorem flX3_78 : Fl RX3 78 9 4 (.array .int) 2 := ⟨RX10, TX10, 11, tyX10, ciX10, by decide, lwg_mem 205 (by decide +kernel) rfl, rfl, (fun z => by cases z), (fun z => by cases z)⟩
theorem flX8_86 : Fl RX8 86 9 4 (.array .int) 2 := ⟨RX10, TX10, 11, tyX10, ciX10, by decide, lwg_mem 206 (by decide +kernel) rfl, rfl, (fun z => by cases z), (fun z => by cases z)⟩
theorem flX12_196 : Fl RX12 196 9 4 (.array .int) 2 := ⟨RX10, TX10, 11, tyX10, ciX10, by decide, lwg_mem 207 (by decide +kernel) rfl, rfl, (fun z => by cases z), (fun z => by cases z)⟩
theorem flX10_27 : Fl RX10 27 9 5 (.array .int) 1 := ⟨RX10, TX10, 11, tyX10, ciX10, by decide, lwg_mem 208 (by decide +kernel) rfl, rfl, (fun z => by cases z), fun _ => ⟨rfl, rfl⟩⟩
theorem flX3_75 : Fl RX3 75 9 5 (.array .int) 2 := ⟨RX10, TX10, 11, tyX10, ciX10, by decide, lwg_mem 209 (by decide +kernel) rfl, rfl, (fun z => by cases z), (fun z => by cases z)⟩
theorem flX8_89 : Fl RX8 89 9 5 (.array .int) 2 := ⟨RX10, TX10, 11, tyX10, ciX10, by decide, lwg_mem 210 (by decide +kernel) rfl, rfl, (fun z => by cases z), (fun z => by cases z)⟩
theorem flX12_199 : Fl RX12 199 9 5 (.array .int) 2 := ⟨RX10, TX10, 11, tyX10, ciX10, by decide, lwg_mem 211 (by decide +kernel) rfl, rfl, (fun z => by cases z), (fun z => by cases z)⟩
theorem flX10_30 : Fl RX10 30 9 6 (.array .int) 1 := ⟨RX10, TX10, 11, tyX10, ciX10, by decide, lwg_mem 212 (by decide +kernel) rfl, rfl, (fun z => by cases z), fun _ => ⟨rfl, rfl⟩⟩
theorem flX3_55 : Fl RX3 55 9 6 (.array .int) 2 := ⟨RX10, TX10, 11, tyX10, ciX10, by decide, lwg_mem 213 (by decide +kernel) rfl, rfl, (fun z => by cases z), (fun z => by cases z)⟩
theorem flX8_92 : Fl RX8 92 9 6 (.array .int) 2 := ⟨RX10, TX10, 11, tyX10, ciX10, by decide, lwg_mem 214 (by decide +kernel) rfl, rfl, (fun z => by cases z), (fun z => by cases z)⟩
theorem flX10_33 : Fl RX10 33 9 7 .int 0 := ⟨RX10, TX10, 11, tyX10, ciX10, by decide, lwg_mem 215 (by decide +kernel) rfl, rfl, fun _ => rfl, (fun z => by cases z)⟩
theorem flX8_40 : Fl RX8 40 9 7 .int 0 := ⟨RX10, TX10, 11, tyX10, ciX10, by decide, lwg_mem 216 (by decide +kernel) rfl, rfl, fun _ => rfl, (fun z => by cases z)⟩
theorem flX12_110 : Fl RX12 110 9 7 .int 0 := ⟨RX10, TX10, 11, tyX10, ciX10, by decide, lwg_mem 217 (by decide +kernel) rfl, rfl, fun _ => rfl, (fun z => by cases z)⟩
theorem flX3_125 : Fl RX3 125 9 7 .int 0 := ⟨RX10, TX10, 11, tyX10, ciX10, by decide, lwg_mem 218 (by decide +kernel) rfl, rfl, fun _ => rfl, (fun z => by cases z)⟩
theorem flX10_37 : Fl RX10 37 9 8 .int 0 := ⟨RX10, TX10, 11, tyX10, ciX10, by decide, lwg_mem 219 (by decide +kernel) rfl, rfl, fun _ => rfl, (fun z => by cases z)⟩
theorem flX8_64 : Fl RX8 64 9 8 .int 0 := ⟨RX10, TX10, 11, tyX10, ciX10, by decide, lwg_mem 220 (by decide +kernel) rfl, rfl, fun _ => rfl, (fun z => by cases z)⟩
theorem flX12_113 : Fl RX12 113 9 8 .int 0 := ⟨RX10, TX10, 11, tyX10, ciX10, by decide, lwg_mem 221 (by decide +kernel) rfl, rfl, fun _ => rfl, (fun z => by cases z)⟩
theorem flX5_50 : Fl RX5 50 9 8 .int 0 := ⟨RX10, TX10, 11, tyX10, ciX10, by decide, lwg_mem 222 (by decide +kernel) rfl, rfl, fun _ => rfl, (fun z => by cases z)⟩
theorem flX3_144 : Fl RX3 144 9 8 .int 0 := ⟨RX10, TX10, 11, tyX10, ciX10, by decide, lwg_mem 223 (by decide +kernel) rfl, rfl, fun _ => rfl, (fun z => by cases z)⟩
theorem flX5_15 : Fl RX5 15 9 9 .int 0 := ⟨RX10, TX10, 11, tyX10, ciX10, by decide, lwg_mem 224 (by decide +kernel) rfl, rfl, fun _ => rfl, (fun z => by cases z)⟩
theorem flX10_40 : Fl RX10 40 9 9 .int 0 := ⟨RX10, TX10, 11, tyX10, ciX10, by decide, lwg_mem 225 (by decide +kernel) rfl, rfl, fun _ => rfl, (fun z => by cases z)⟩
theorem flX3_35 : Fl RX3 35 9 9 .int 0 := ⟨RX10, TX10, 11, tyX10, ciX10, by decide, lwg_mem 226 (by decide +kernel) rfl, rfl, fun _ => rfl, (fun z => by cases z)⟩
theorem flX12_104 : Fl RX12 104 9 9 .int 0 := ⟨RX10, TX10, 11, tyX10, ciX10, by decide, lwg_mem 227 (by decide +kernel) rfl, rfl, fun _ => rfl, (fun z => by cases z)⟩
theorem flX11_29 : Fl RX11 29 9 9 .int 0 := ⟨RX10, TX10, 11, tyX10, ciX10, by decide, lwg_mem 228 (by decide +kernel) rfl, rfl, fun _ => rfl, (fun z => by cases z)⟩
theorem flX7_35 : Fl RX7 35 9 9 .int 0 := ⟨RX10, TX10, 11, tyX10, ciX10, by decide, lwg_mem 229 (by decide +kernel) rfl, rfl, fun _ => rfl, (fun z => by cases z)⟩
theorem flX8_67 : Fl RX8 67 9 9 .int 0 := ⟨RX10, TX10, 11, tyX10, ciX10, by decide, lwg_mem 230 (by decide +kernel) rfl, rfl, fun _ => rfl, (fun z => by cases z)⟩
theorem flX9_31 : Fl RX9 31 9 10 .int 0 := ⟨RX10, TX10, 11, tyX10, ciX10, by decide, lwg_mem 231 (by decide +kernel) rfl, rfl, fun _ => rfl, (fun z => by cases z)⟩
theorem flX10_43 : Fl RX10 43 9 10 .int 0 := ⟨RX10, TX10, 11, tyX10, ciX10, by decide, lwg_mem 232 (by decide +kernel) rfl, rfl, fun _ => rfl, (fun z => by cases z)⟩
theorem flX3_49 : Fl RX3 49 9 10 .int 0 := ⟨RX10, TX10, 11, tyX10, ciX10, by decide, lwg_mem 233 (by decide +kernel) rfl, rfl, fun _ => rfl, (fun z => by cases z)⟩
theorem flX5_31 : Fl RX5 31 9 10 .int 0 := ⟨RX10, TX10, 11, tyX10, ciX10, by decide, lwg_mem 234 (by decide +kernel) rfl, rfl, fun _ => rfl, (fun z => by cases z)⟩
theorem flX7_42 : Fl RX7 42 9 10 .int 0 := ⟨RX10, TX10, 11, tyX10, ciX10, by decide, lwg_mem 235 (by decide +kernel) rfl, rfl, fun _ => rfl, (fun z => by cases z)⟩
theorem flX12_116 : Fl RX12 116 9 10 .int 0 := ⟨RX10, TX10, 11, tyX10, ciX10, by decide, lwg_mem 236 (by decide +kernel) rfl, rfl, fun _ => rfl, (fun z => by cases z)⟩
theorem flX8_83 : Fl RX8 83 9 10 .int 0 := ⟨RX10, TX10, 11, tyX10, ciX10, by decide, lwg_mem 237 (by decide +kernel) rfl, rfl, fun _ => rfl, (fun z => by cases z)⟩
theorem flX3_12 : Fl RX3 12 3 0 (.object "LullabyDebts$Night") 1 := ⟨RX3, TX3, 2, tyX3, ciX3, by decide, lwg_mem 261 (by decide +kernel) rfl, rfl, (fun z => by cases z), fun _ => ⟨rfl, rfl⟩⟩
theorem flX9_21 : Fl RX9 21 3 0 (.object "LullabyDebts$Night") 2 := ⟨RX3, TX3, 2, tyX3, ciX3, by decide, lwg_mem 262 (by decide +kernel) rfl, rfl, (fun z => by cases z), (fun z => by cases z)⟩
theorem flX5_21 : Fl RX5 21 3 0 (.object "LullabyDebts$Night") 2 := ⟨RX3, TX3, 2, tyX3, ciX3, by decide, lwg_mem 263 (by decide +kernel) rfl, rfl, (fun z => by cases z), (fun z => by cases z)⟩
theorem flX11_34 : Fl RX11 34 3 0 (.object "LullabyDebts$Night") 2 := ⟨RX3, TX3, 2, tyX3, ciX3, by decide, lwg_mem 264 (by decide +kernel) rfl, rfl, (fun z => by cases z), (fun z => by cases z)⟩
theorem flX12_119 : Fl RX12 119 3 0 (.object "LullabyDebts$Night") 2 := ⟨RX3, TX3, 2, tyX3, ciX3, by decide, lwg_mem 265 (by decide +kernel) rfl, rfl, (fun z => by cases z), (fun z => by cases z)⟩
theorem flX3_21 : Fl RX3 21 3 1 (.object "LullabyDebts$Row") 0 := ⟨RX3, TX3, 2, tyX3, ciX3, by decide, lwg_mem 266 (by decide +kernel) rfl, rfl, fun _ => rfl, (fun z => by cases z)⟩
theorem flX5_9 : Fl RX5 9 3 1 (.object "LullabyDebts$Row") 0 := ⟨RX3, TX3, 2, tyX3, ciX3, by decide, lwg_mem 267 (by decide +kernel) rfl, rfl, fun _ => rfl, (fun z => by cases z)⟩
theorem flX9_27 : Fl RX9 27 3 1 (.object "LullabyDebts$Row") 0 := ⟨RX3, TX3, 2, tyX3, ciX3, by decide, lwg_mem 268 (by decide +kernel) rfl, rfl, fun _ => rfl, (fun z => by cases z)⟩
theorem flX12_86 : Fl RX12 86 3 1 (.object "LullabyDebts$Row") 0 := ⟨RX3, TX3, 2, tyX3, ciX3, by decide, lwg_mem 269 (by decide +kernel) rfl, rfl, fun _ => rfl, (fun z => by cases z)⟩
theorem flX11_23 : Fl RX11 23 3 1 (.object "LullabyDebts$Row") 0 := ⟨RX3, TX3, 2, tyX3, ciX3, by decide, lwg_mem 270 (by decide +kernel) rfl, rfl, fun _ => rfl, (fun z => by cases z)⟩
theorem flX7_29 : Fl RX7 29 3 1 (.object "LullabyDebts$Row") 0 := ⟨RX3, TX3, 2, tyX3, ciX3, by decide, lwg_mem 271 (by decide +kernel) rfl, rfl, fun _ => rfl, (fun z => by cases z)⟩
theorem flX7_9 : Fl RX7 9 6 0 (.array .int) 1 := ⟨RX7, TX7, 4, tyX7, ciX7, by decide, lwg_mem 283 (by decide +kernel) rfl, rfl, (fun z => by cases z), fun _ => ⟨rfl, rfl⟩⟩
theorem flX7_15 : Fl RX7 15 6 1 (.array .int) 1 := ⟨RX7, TX7, 4, tyX7, ciX7, by decide, lwg_mem 284 (by decide +kernel) rfl, rfl, (fun z => by cases z), fun _ => ⟨rfl, rfl⟩⟩
theorem flX7_41 : Fl RX7 41 6 2 .int 0 := ⟨RX7, TX7, 4, tyX7, ciX7, by decide, lwg_mem 285 (by decide +kernel) rfl, rfl, fun _ => rfl, (fun z => by cases z)⟩
theorem flX7_45 : Fl RX7 45 6 3 .int 0 := ⟨RX7, TX7, 4, tyX7, ciX7, by decide, lwg_mem 286 (by decide +kernel) rfl, rfl, fun _ => rfl, (fun z => by cases z)⟩
theorem flX9_9 : Fl RX9 9 8 0 (.array .int) 1 := ⟨RX9, TX9, 6, tyX9, ciX9, by decide, lwg_mem 302 (by decide +kernel) rfl, rfl, (fun z => by cases z), fun _ => ⟨rfl, rfl⟩⟩
theorem flX9_15 : Fl RX9 15 8 1 (.array .int) 1 := ⟨RX9, TX9, 6, tyX9, ciX9, by decide, lwg_mem 303 (by decide +kernel) rfl, rfl, (fun z => by cases z), fun _ => ⟨rfl, rfl⟩⟩
theorem flX9_18 : Fl RX9 18 8 2 (.array .int) 1 := ⟨RX9, TX9, 6, tyX9, ciX9, by decide, lwg_mem 304 (by decide +kernel) rfl, rfl, (fun z => by cases z), fun _ => ⟨rfl, rfl⟩⟩
theorem flX9_37 : Fl RX9 37 8 3 .int 0 := ⟨RX9, TX9, 6, tyX9, ciX9, by decide, lwg_mem 305 (by decide +kernel) rfl, rfl, fun _ => rfl, (fun z => by cases z)⟩
theorem flX9_49 : Fl RX9 49 8 4 .int 0 := ⟨RX9, TX9, 6, tyX9, ciX9, by decide, lwg_mem 306 (by decide +kernel) rfl, rfl, fun _ => rfl, (fun z => by cases z)⟩
theorem flX12_279 : Fl RX12 279 8 4 .int 0 := ⟨RX9, TX9, 6, tyX9, ciX9, by decide, lwg_mem 307 (by decide +kernel) rfl, rfl, fun _ => rfl, (fun z => by cases z)⟩
theorem flX9_52 : Fl RX9 52 8 5 .int 0 := ⟨RX9, TX9, 6, tyX9, ciX9, by decide, lwg_mem 308 (by decide +kernel) rfl, rfl, fun _ => rfl, (fun z => by cases z)⟩
theorem flX12_282 : Fl RX12 282 8 5 .int 0 := ⟨RX9, TX9, 6, tyX9, ciX9, by decide, lwg_mem 309 (by decide +kernel) rfl, rfl, fun _ => rfl, (fun z => by cases z)⟩
theorem flX6_11 : Fl RX6 11 5 0 (.array (.object "LullabyDebts$Night")) 1 := ⟨RX6, TX6, 3, tyX6, ciX6, by decide, lwg_mem 332 (by decide +kernel) rfl, rfl, (fun z => by cases z), fun _ => ⟨rfl, rfl⟩⟩
theorem flX6_18 : Fl RX6 18 5 1 .int 0 := ⟨RX6, TX6, 3, tyX6, ciX6, by decide, lwg_mem 333 (by decide +kernel) rfl, rfl, fun _ => rfl, (fun z => by cases z)⟩
theorem flX6_26 : Fl RX6 26 5 2 .int 0 := ⟨RX6, TX6, 3, tyX6, ciX6, by decide, lwg_mem 334 (by decide +kernel) rfl, rfl, fun _ => rfl, (fun z => by cases z)⟩
theorem flX12_165 : Fl RX12 165 5 2 .int 0 := ⟨RX6, TX6, 3, tyX6, ciX6, by decide, lwg_mem 335 (by decide +kernel) rfl, rfl, fun _ => rfl, (fun z => by cases z)⟩
theorem flX11_9 : Fl RX11 9 10 0 (.array .int) 1 := ⟨RX11, TX11, 3, tyX11, ciX11, by decide, lwg_mem 349 (by decide +kernel) rfl, rfl, (fun z => by cases z), fun _ => ⟨rfl, rfl⟩⟩
theorem flX11_15 : Fl RX11 15 10 1 (.array .boolean) 1 := ⟨RX11, TX11, 3, tyX11, ciX11, by decide, lwg_mem 350 (by decide +kernel) rfl, rfl, (fun z => by cases z), fun _ => ⟨rfl, rfl⟩⟩
theorem flX11_19 : Fl RX11 19 10 2 .int 0 := ⟨RX11, TX11, 3, tyX11, ciX11, by decide, lwg_mem 351 (by decide +kernel) rfl, rfl, fun _ => rfl, (fun z => by cases z)⟩
theorem flX12_161 : Fl RX12 161 10 2 .int 0 := ⟨RX11, TX11, 3, tyX11, ciX11, by decide, lwg_mem 352 (by decide +kernel) rfl, rfl, fun _ => rfl, (fun z => by cases z)⟩
theorem flX0_9 : Fl RX0 9 0 0 (.array .int) 1 := ⟨RX0, TX0, 3, tyX0, ciX0, by decide, lwg_mem 367 (by decide +kernel) rfl, rfl, (fun z => by cases z), fun _ => ⟨rfl, rfl⟩⟩
theorem flX0_15 : Fl RX0 15 0 1 (.array .int) 1 := ⟨RX0, TX0, 3, tyX0, ciX0, by decide, lwg_mem 368 (by decide +kernel) rfl, rfl, (fun z => by cases z), fun _ => ⟨rfl, rfl⟩⟩
theorem flX0_18 : Fl RX0 18 0 2 .int 0 := ⟨RX0, TX0, 3, tyX0, ciX0, by decide, lwg_mem 369 (by decide +kernel) rfl, rfl, fun _ => rfl, (fun z => by cases z)⟩
theorem flX12_164 : Fl RX12 164 0 2 .int 0 := ⟨RX0, TX0, 3, tyX0, ciX0, by decide, lwg_mem 370 (by decide +kernel) rfl, rfl, fun _ => rfl, (fun z => by cases z)⟩
theorem flX2_10 : Fl RX2 10 2 0 (.object "LullabyDebts$Night") 1 := ⟨RX2, TX2, 3, tyX2, ciX2, by decide, lwg_mem 389 (by decide +kernel) rfl, rfl, (fun z => by cases z), fun _ => ⟨rfl, rfl⟩⟩
theorem flX12_307 : Fl RX12 307 2 0 (.object "LullabyDebts$Night") 2 := ⟨RX2, TX2, 3, tyX2, ciX2, by decide, lwg_mem 390 (by decide +kernel) rfl, rfl, (fun z => by cases z), (fun z => by cases z)⟩
theorem flX12_313 : Fl RX12 313 2 1 .int 0 := ⟨RX2, TX2, 3, tyX2, ciX2, by decide, lwg_mem 391 (by decide +kernel) rfl, rfl, fun _ => rfl, (fun z => by cases z)⟩
theorem flX12_100 : Fl RX12 100 2 2 .boolean 0 := ⟨RX2, TX2, 3, tyX2, ciX2, by decide, lwg_mem 392 (by decide +kernel) rfl, rfl, fun _ => rfl, (fun z => by cases z)⟩
theorem flX12_10 : Fl RX12 10 11 0 (.object "LullabyDebts$Reader") 1 := ⟨RX12, TX12, 10, tyX12, ciX12, by decide, lwg_mem 400 (by decide +kernel) rfl, rfl, (fun z => by cases z), fun _ => ⟨rfl, rfl⟩⟩
theorem flX12_19 : Fl RX12 19 11 1 (.object "LullabyDebts$Mountain") 1 := ⟨RX12, TX12, 10, tyX12, ciX12, by decide, lwg_mem 401 (by decide +kernel) rfl, rfl, (fun z => by cases z), fun _ => ⟨rfl, rfl⟩⟩
theorem flX12_26 : Fl RX12 26 11 2 (.object "LullabyDebts$Planner") 1 := ⟨RX12, TX12, 10, tyX12, ciX12, by decide, lwg_mem 402 (by decide +kernel) rfl, rfl, (fun z => by cases z), fun _ => ⟨rfl, rfl⟩⟩
theorem flX12_33 : Fl RX12 33 11 3 (.object "LullabyDebts$Rounder") 1 := ⟨RX12, TX12, 10, tyX12, ciX12, by decide, lwg_mem 403 (by decide +kernel) rfl, rfl, (fun z => by cases z), fun _ => ⟨rfl, rfl⟩⟩
theorem flX12_40 : Fl RX12 40 11 4 (.object "LullabyDebts$Past") 1 := ⟨RX12, TX12, 10, tyX12, ciX12, by decide, lwg_mem 404 (by decide +kernel) rfl, rfl, (fun z => by cases z), fun _ => ⟨rfl, rfl⟩⟩
theorem flX12_47 : Fl RX12 47 11 5 (.object "LullabyDebts$Tellings") 1 := ⟨RX12, TX12, 10, tyX12, ciX12, by decide, lwg_mem 405 (by decide +kernel) rfl, rfl, (fun z => by cases z), fun _ => ⟨rfl, rfl⟩⟩
theorem flX12_54 : Fl RX12 54 11 6 (.object "LullabyDebts$Book") 1 := ⟨RX12, TX12, 10, tyX12, ciX12, by decide, lwg_mem 406 (by decide +kernel) rfl, rfl, (fun z => by cases z), fun _ => ⟨rfl, rfl⟩⟩
theorem flX12_60 : Fl RX12 60 11 7 (.array (.object "LullabyDebts$Image")) 1 := ⟨RX12, TX12, 10, tyX12, ciX12, by decide, lwg_mem 407 (by decide +kernel) rfl, rfl, (fun z => by cases z), fun _ => ⟨rfl, rfl⟩⟩
theorem flX12_67 : Fl RX12 67 11 8 (.object "LullabyDebts$Row") 0 := ⟨RX12, TX12, 10, tyX12, ciX12, by decide, lwg_mem 408 (by decide +kernel) rfl, rfl, fun _ => rfl, (fun z => by cases z)⟩
theorem flX12_304 : Fl RX12 304 11 9 .int 0 := ⟨RX12, TX12, 10, tyX12, ciX12, by decide, lwg_mem 409 (by decide +kernel) rfl, rfl, fun _ => rfl, (fun z => by cases z)⟩
theorem flX13_7 : Fl RX13 7 12 0 (.array .int) 1 := ⟨RX13, TX13, 38, tyX13, ciX13, by decide, lwg_mem 863 (by decide +kernel) rfl, rfl, (fun z => by cases z), fun _ => ⟨rfl, rfl⟩⟩
theorem flX13_82 : Fl RX13 82 12 1 .int 0 := ⟨RX13, TX13, 38, tyX13, ciX13, by decide, lwg_mem 864 (by decide +kernel) rfl, rfl, fun _ => rfl, (fun z => by cases z)⟩
theorem flX13_13 : Fl RX13 13 12 2 .int 0 := ⟨RX13, TX13, 38, tyX13, ciX13, by decide, lwg_mem 865 (by decide +kernel) rfl, rfl, fun _ => rfl, (fun z => by cases z)⟩
theorem flX13_126 : Fl RX13 126 12 3 .int 0 := ⟨RX13, TX13, 38, tyX13, ciX13, by decide, lwg_mem 866 (by decide +kernel) rfl, rfl, fun _ => rfl, (fun z => by cases z)⟩
theorem flX13_129 : Fl RX13 129 12 4 .int 0 := ⟨RX13, TX13, 38, tyX13, ciX13, by decide, lwg_mem 867 (by decide +kernel) rfl, rfl, fun _ => rfl, (fun z => by cases z)⟩
theorem flX13_75 : Fl RX13 75 12 5 .int 0 := ⟨RX13, TX13, 38, tyX13, ciX13, by decide, lwg_mem 868 (by decide +kernel) rfl, rfl, fun _ => rfl, (fun z => by cases z)⟩
theorem flX13_78 : Fl RX13 78 12 6 .int 0 := ⟨RX13, TX13, 38, tyX13, ciX13, by decide, lwg_mem 869 (by decide +kernel) rfl, rfl, fun _ => rfl, (fun z => by cases z)⟩
theorem flX13_17 : Fl RX13 17 12 7 (.array .int) 1 := ⟨RX13, TX13, 38, tyX13, ciX13, by decide, lwg_mem 870 (by decide +kernel) rfl, rfl, (fun z => by cases z), fun _ => ⟨rfl, rfl⟩⟩
theorem flX13_20 : Fl RX13 20 12 8 (.array .int) 1 := ⟨RX13, TX13, 38, tyX13, ciX13, by decide, lwg_mem 871 (by decide +kernel) rfl, rfl, (fun z => by cases z), fun _ => ⟨rfl, rfl⟩⟩
theorem flX13_23 : Fl RX13 23 12 9 (.array .int) 1 := ⟨RX13, TX13, 38, tyX13, ciX13, by decide, lwg_mem 872 (by decide +kernel) rfl, rfl, (fun z => by cases z), fun _ => ⟨rfl, rfl⟩⟩
theorem flX13_26 : Fl RX13 26 12 10 (.array .int) 1 := ⟨RX13, TX13, 38, tyX13, ciX13, by decide, lwg_mem 873 (by decide +kernel) rfl, rfl, (fun z => by cases z), fun _ => ⟨rfl, rfl⟩⟩
theorem flX13_29 : Fl RX13 29 12 11 (.array .int) 1 := ⟨RX13, TX13, 38, tyX13, ciX13, by decide, lwg_mem 874 (by decide +kernel) rfl, rfl, (fun z => by cases z), fun _ => ⟨rfl, rfl⟩⟩
theorem flX13_32 : Fl RX13 32 12 12 (.array .int) 1 := ⟨RX13, TX13, 38, tyX13, ciX13, by decide, lwg_mem 875 (by decide +kernel) rfl, rfl, (fun z => by cases z), fun _ => ⟨rfl, rfl⟩⟩
theorem flX13_138 : Fl RX13 138 12 13 .int 0 := ⟨RX13, TX13, 38, tyX13, ciX13, by decide, lwg_mem 876 (by decide +kernel) rfl, rfl, fun _ => rfl, (fun z => by cases z)⟩
theorem flX13_213 : Fl RX13 213 12 14 .long 0 := ⟨RX13, TX13, 38, tyX13, ciX13, by decide, lwg_mem 877 (by decide +kernel) rfl, rfl, fun _ => rfl, (fun z => by cases z)⟩
theorem flX13_35 : Fl RX13 35 12 15 (.array .int) 1 := ⟨RX13, TX13, 38, tyX13, ciX13, by decide, lwg_mem 878 (by decide +kernel) rfl, rfl, (fun z => by cases z), fun _ => ⟨rfl, rfl⟩⟩
theorem flX13_38 : Fl RX13 38 12 16 (.array .long) 1 := ⟨RX13, TX13, 38, tyX13, ciX13, by decide, lwg_mem 879 (by decide +kernel) rfl, rfl, (fun z => by cases z), fun _ => ⟨rfl, rfl⟩⟩
theorem flX13_42 : Fl RX13 42 12 17 (.array .int) 1 := ⟨RX13, TX13, 38, tyX13, ciX13, by decide, lwg_mem 880 (by decide +kernel) rfl, rfl, (fun z => by cases z), fun _ => ⟨rfl, rfl⟩⟩
theorem flX13_45 : Fl RX13 45 12 18 (.array .int) 1 := ⟨RX13, TX13, 38, tyX13, ciX13, by decide, lwg_mem 881 (by decide +kernel) rfl, rfl, (fun z => by cases z), fun _ => ⟨rfl, rfl⟩⟩
theorem flX13_132 : Fl RX13 132 12 19 .int 0 := ⟨RX13, TX13, 38, tyX13, ciX13, by decide, lwg_mem 882 (by decide +kernel) rfl, rfl, fun _ => rfl, (fun z => by cases z)⟩
theorem flX13_48 : Fl RX13 48 12 20 (.array .int) 1 := ⟨RX13, TX13, 38, tyX13, ciX13, by decide, lwg_mem 883 (by decide +kernel) rfl, rfl, (fun z => by cases z), fun _ => ⟨rfl, rfl⟩⟩
theorem flX13_135 : Fl RX13 135 12 21 .int 0 := ⟨RX13, TX13, 38, tyX13, ciX13, by decide, lwg_mem 884 (by decide +kernel) rfl, rfl, fun _ => rfl, (fun z => by cases z)⟩
theorem flX13_86 : Fl RX13 86 12 22 .int 0 := ⟨RX13, TX13, 38, tyX13, ciX13, by decide, lwg_mem 885 (by decide +kernel) rfl, rfl, fun _ => rfl, (fun z => by cases z)⟩
theorem flX13_89 : Fl RX13 89 12 23 .int 0 := ⟨RX13, TX13, 38, tyX13, ciX13, by decide, lwg_mem 886 (by decide +kernel) rfl, rfl, fun _ => rfl, (fun z => by cases z)⟩
theorem flX13_113 : Fl RX13 113 12 24 .int 0 := ⟨RX13, TX13, 38, tyX13, ciX13, by decide, lwg_mem 887 (by decide +kernel) rfl, rfl, fun _ => rfl, (fun z => by cases z)⟩
theorem flX13_116 : Fl RX13 116 12 25 .int 0 := ⟨RX13, TX13, 38, tyX13, ciX13, by decide, lwg_mem 888 (by decide +kernel) rfl, rfl, fun _ => rfl, (fun z => by cases z)⟩
theorem flX13_103 : Fl RX13 103 12 26 .int 0 := ⟨RX13, TX13, 38, tyX13, ciX13, by decide, lwg_mem 889 (by decide +kernel) rfl, rfl, fun _ => rfl, (fun z => by cases z)⟩
theorem flX13_106 : Fl RX13 106 12 27 .int 0 := ⟨RX13, TX13, 38, tyX13, ciX13, by decide, lwg_mem 890 (by decide +kernel) rfl, rfl, fun _ => rfl, (fun z => by cases z)⟩
theorem flX13_51 : Fl RX13 51 12 28 (.array .int) 1 := ⟨RX13, TX13, 38, tyX13, ciX13, by decide, lwg_mem 891 (by decide +kernel) rfl, rfl, (fun z => by cases z), fun _ => ⟨rfl, rfl⟩⟩
theorem flX13_54 : Fl RX13 54 12 29 (.array .int) 1 := ⟨RX13, TX13, 38, tyX13, ciX13, by decide, lwg_mem 892 (by decide +kernel) rfl, rfl, (fun z => by cases z), fun _ => ⟨rfl, rfl⟩⟩
theorem flX13_244 : Fl RX13 244 12 30 .int 0 := ⟨RX13, TX13, 38, tyX13, ciX13, by decide, lwg_mem 893 (by decide +kernel) rfl, rfl, fun _ => rfl, (fun z => by cases z)⟩
theorem flX13_247 : Fl RX13 247 12 31 .int 0 := ⟨RX13, TX13, 38, tyX13, ciX13, by decide, lwg_mem 894 (by decide +kernel) rfl, rfl, fun _ => rfl, (fun z => by cases z)⟩
theorem flX13_57 : Fl RX13 57 12 32 (.array .int) 1 := ⟨RX13, TX13, 38, tyX13, ciX13, by decide, lwg_mem 895 (by decide +kernel) rfl, rfl, (fun z => by cases z), fun _ => ⟨rfl, rfl⟩⟩
theorem flX13_60 : Fl RX13 60 12 33 (.array .int) 1 := ⟨RX13, TX13, 38, tyX13, ciX13, by decide, lwg_mem 896 (by decide +kernel) rfl, rfl, (fun z => by cases z), fun _ => ⟨rfl, rfl⟩⟩
theorem flX13_63 : Fl RX13 63 12 34 (.array .int) 1 := ⟨RX13, TX13, 38, tyX13, ciX13, by decide, lwg_mem 897 (by decide +kernel) rfl, rfl, (fun z => by cases z), fun _ => ⟨rfl, rfl⟩⟩
theorem flX13_66 : Fl RX13 66 12 35 (.array .int) 1 := ⟨RX13, TX13, 38, tyX13, ciX13, by decide, lwg_mem 898 (by decide +kernel) rfl, rfl, (fun z => by cases z), fun _ => ⟨rfl, rfl⟩⟩
theorem flX13_69 : Fl RX13 69 12 36 (.array .int) 1 := ⟨RX13, TX13, 38, tyX13, ciX13, by decide, lwg_mem 899 (by decide +kernel) rfl, rfl, (fun z => by cases z), fun _ => ⟨rfl, rfl⟩⟩
theorem flX13_72 : Fl RX13 72 12 37 (.array .int) 1 := ⟨RX13, TX13, 38, tyX13, ciX13, by decide, lwg_mem 900 (by decide +kernel) rfl, rfl, (fun z => by cases z), fun _ => ⟨rfl, rfl⟩⟩
def mL_law : MD := (RL, yL_law, cL_law, 4, some .boolean)
def mX12_init : MD := (RX12, yX12_init, cX12_init, 2, none)
theorem okX12_init : MOK mX12_init 0 := ⟨lwg_mem 76 (by decide +kernel) rfl, lwg_mem 56 (by decide +kernel) rfl, ⟨rfl, plainFor_of_name (by decide +kernel)⟩, by decide +kernel, by decide⟩
theorem viX12_init : Cond.instanceMethod mX12_init.2.1 ∈ lwg := lwg_mem 75 (by decide +kernel) rfl
def mX8_init : MD := (RX8, yX8_init, cX8_init, 1, none)
theorem okX8_init : MOK mX8_init 0 := ⟨lwg_mem 84 (by decide +kernel) rfl, lwg_mem 57 (by decide +kernel) rfl, ⟨rfl, plainFor_of_name (by decide +kernel)⟩, by decide +kernel, by decide⟩
theorem viX8_init : Cond.instanceMethod mX8_init.2.1 ∈ lwg := lwg_mem 83 (by decide +kernel) rfl
def mX3_init : MD := (RX3, yX3_init, cX3_init, 1, none)
theorem okX3_init : MOK mX3_init 0 := ⟨lwg_mem 109 (by decide +kernel) rfl, lwg_mem 58 (by decide +kernel) rfl, ⟨rfl, plainFor_of_name (by decide +kernel)⟩, by decide +kernel, by decide⟩
theorem viX3_init : Cond.instanceMethod mX3_init.2.1 ∈ lwg := lwg_mem 108 (by decide +kernel) rfl
def mX4_init : MD := (RX4, yX4_init, cX4_init, 1, none)
theorem okX4_init : MOK mX4_init 0 := ⟨lwg_mem 115 (by decide +kernel) rfl, lwg_mem 59 (by decide +kernel) rfl, ⟨rfl, plainFor_of_name (by decide +kernel)⟩, by decide +kernel, by decide⟩
theorem viX4_init : Cond.instanceMethod mX4_init.2.1 ∈ lwg := lwg_mem 114 (by decide +kernel) rfl
def mX10_init : MD := (RX10, yX10_init, cX10_init, 1, none)
theorem okX10_init : MOK mX10_init 0 := ⟨lwg_mem 188 (by decide +kernel) rfl, lwg_mem 60 (by decide +kernel) rfl, ⟨rfl, plainFor_of_name (by decide +kernel)⟩, by decide +kernel, by decide⟩
theorem viX10_init : Cond.instanceMethod mX10_init.2.1 ∈ lwg := lwg_mem 187 (by decide +kernel) rfl
def mX7_init : MD := (RX7, yX7_init, cX7_init, 1, none)
theorem okX7_init : MOK mX7_init 0 := ⟨lwg_mem 281 (by decide +kernel) rfl, lwg_mem 61 (by decide +kernel) rfl, ⟨rfl, plainFor_of_name (by decide +kernel)⟩, by decide +kernel, by decide⟩
theorem viX7_init : Cond.instanceMethod mX7_init.2.1 ∈ lwg := lwg_mem 280 (by decide +kernel) rfl
def mX9_init : MD := (RX9, yX9_init, cX9_init, 1, none)
theorem okX9_init : MOK mX9_init 0 := ⟨lwg_mem 300 (by decide +kernel) rfl, lwg_mem 62 (by decide +kernel) rfl, ⟨rfl, plainFor_of_name (by decide +kernel)⟩, by decide +kernel, by decide⟩
theorem viX9_init : Cond.instanceMethod mX9_init.2.1 ∈ lwg := lwg_mem 299 (by decide +kernel) rfl
def mX6_init : MD := (RX6, yX6_init, cX6_init, 2, none)
theorem okX6_init : MOK mX6_init 0 := ⟨lwg_mem 327 (by decide +kernel) rfl, lwg_mem 63 (by decide +kernel) rfl, ⟨rfl, plainFor_of_name (by decide +kernel)⟩, by decide +kernel, by decide⟩
theorem viX6_init : Cond.instanceMethod mX6_init.2.1 ∈ lwg := lwg_mem 326 (by decide +kernel) rfl
def mX11_init : MD := (RX11, yX11_init, cX11_init, 1, none)
theorem okX11_init : MOK mX11_init 0 := ⟨lwg_mem 347 (by decide +kernel) rfl, lwg_mem 64 (by decide +kernel) rfl, ⟨rfl, plainFor_of_name (by decide +kernel)⟩, by decide +kernel, by decide⟩
theorem viX11_init : Cond.instanceMethod mX11_init.2.1 ∈ lwg := lwg_mem 346 (by decide +kernel) rfl
def mX0_init : MD := (RX0, yX0_init, cX0_init, 1, none)
theorem okX0_init : MOK mX0_init 0 := ⟨lwg_mem 365 (by decide +kernel) rfl, lwg_mem 65 (by decide +kernel) rfl, ⟨rfl, plainFor_of_name (by decide +kernel)⟩, by decide +kernel, by decide⟩
theorem viX0_init : Cond.instanceMethod mX0_init.2.1 ∈ lwg := lwg_mem 364 (by decide +kernel) rfl
def mX2_init : MD := (RX2, yX2_init, cX2_init, 1, none)
theorem okX2_init : MOK mX2_init 0 := ⟨lwg_mem 385 (by decide +kernel) rfl, lwg_mem 66 (by decide +kernel) rfl, ⟨rfl, plainFor_of_name (by decide +kernel)⟩, by decide +kernel, by decide⟩
theorem viX2_init : Cond.instanceMethod mX2_init.2.1 ∈ lwg := lwg_mem 384 (by decide +kernel) rfl
def mX12_feed : MD := (RX12, yX12_feed, cX12_feed, 2, some .int)
theorem okX12_feed : MOK mX12_feed 1 := ⟨lwg_mem 434 (by decide +kernel) rfl, lwg_mem 56 (by decide +kernel) rfl, ⟨rfl, plainFor_of_name (by decide +kernel)⟩, by decide +kernel, by decide⟩
theorem viX12_feed : Cond.instanceMethod mX12_feed.2.1 ∈ lwg ∧ Cond.selects mX12_feed.2.1.cls mX12_feed.2.1 mX12_feed.2.1 ∈ lwg := ⟨lwg_mem 432 (by decide +kernel) rfl, lwg_mem 433 (by decide +kernel) rfl⟩
def mX8_add : MD := (RX8, yX8_add, cX8_add, 2, none)
theorem okX8_add : MOK mX8_add 1 := ⟨lwg_mem 440 (by decide +kernel) rfl, lwg_mem 57 (by decide +kernel) rfl, ⟨rfl, plainFor_of_name (by decide +kernel)⟩, by decide +kernel, by decide⟩
theorem viX8_add : Cond.instanceMethod mX8_add.2.1 ∈ lwg ∧ Cond.selects mX8_add.2.1.cls mX8_add.2.1 mX8_add.2.1 ∈ lwg := ⟨lwg_mem 438 (by decide +kernel) rfl, lwg_mem 439 (by decide +kernel) rfl⟩
def mX12_row : MD := (RX12, yX12_row, cX12_row, 4, some .int)
theorem okX12_row : MOK mX12_row 0 := ⟨lwg_mem 444 (by decide +kernel) rfl, lwg_mem 56 (by decide +kernel) rfl, ⟨rfl, plainFor_of_name (by decide +kernel)⟩, by decide +kernel, by decide⟩
theorem viX12_row : Cond.instanceMethod mX12_row.2.1 ∈ lwg ∧ Cond.selects mX12_row.2.1.cls mX12_row.2.1 mX12_row.2.1 ∈ lwg := ⟨lwg_mem 442 (by decide +kernel) rfl, lwg_mem 443 (by decide +kernel) rfl⟩
def mX8_readInto : MD := (RX8, yX8_readInto, cX8_readInto, 3, some .int)
theorem okX8_readInto : MOK mX8_readInto 1 := ⟨lwg_mem 448 (by decide +kernel) rfl, lwg_mem 57 (by decide +kernel) rfl, ⟨rfl, plainFor_of_name (by decide +kernel)⟩, by decide +kernel, by decide⟩
theorem viX8_readInto : Cond.instanceMethod mX8_readInto.2.1 ∈ lwg ∧ Cond.selects mX8_readInto.2.1.cls mX8_readInto.2.1 mX8_readInto.2.1 ∈ lwg := ⟨lwg_mem 446 (by decide +kernel) rfl, lwg_mem 447 (by decide +kernel) rfl⟩
def mX10_clear : MD := (RX10, yX10_clear, cX10_clear, 1, none)
theorem okX10_clear : MOK mX10_clear 0 := ⟨lwg_mem 452 (by decide +kernel) rfl, lwg_mem 60 (by decide +kernel) rfl, ⟨rfl, plainFor_of_name (by decide +kernel)⟩, by decide +kernel, by decide⟩
theorem viX10_clear : Cond.instanceMethod mX10_clear.2.1 ∈ lwg ∧ Cond.selects mX10_clear.2.1.cls mX10_clear.2.1 mX10_clear.2.1 ∈ lwg := ⟨lwg_mem 450 (by decide +kernel) rfl, lwg_mem 451 (by decide +kernel) rfl⟩
def mX8_skipBlanks : MD := (RX8, yX8_skipBlanks, cX8_skipBlanks, 1, none)
theorem okX8_skipBlanks : MOK mX8_skipBlanks 0 := ⟨lwg_mem 456 (by decide +kernel) rfl, lwg_mem 57 (by decide +kernel) rfl, ⟨rfl, plainFor_of_name (by decide +kernel)⟩, by decide +kernel, by decide⟩
theorem viX8_skipBlanks : Cond.instanceMethod mX8_skipBlanks.2.1 ∈ lwg ∧ Cond.selects mX8_skipBlanks.2.1.cls mX8_skipBlanks.2.1 mX8_skipBlanks.2.1 ∈ lwg := ⟨lwg_mem 455 (by decide +kernel) rfl, lwg_mem 0 (by decide +kernel) rfl⟩
def mX8_readClause : MD := (RX8, yX8_readClause, cX8_readClause, 4, none)
theorem okX8_readClause : MOK mX8_readClause 1 := ⟨lwg_mem 460 (by decide +kernel) rfl, lwg_mem 57 (by decide +kernel) rfl, ⟨rfl, plainFor_of_name (by decide +kernel)⟩, by decide +kernel, by decide⟩
theorem viX8_readClause : Cond.instanceMethod mX8_readClause.2.1 ∈ lwg ∧ Cond.selects mX8_readClause.2.1.cls mX8_readClause.2.1 mX8_readClause.2.1 ∈ lwg := ⟨lwg_mem 459 (by decide +kernel) rfl, lwg_mem 1 (by decide +kernel) rfl⟩
def mX8_readHouses : MD := (RX8, yX8_readHouses, cX8_readHouses, 5, none)
theorem okX8_readHouses : MOK mX8_readHouses 2 := ⟨lwg_mem 464 (by decide +kernel) rfl, lwg_mem 57 (by decide +kernel) rfl, ⟨rfl, plainFor_of_name (by decide +kernel)⟩, by decide +kernel, by decide⟩
theorem viX8_readHouses : Cond.instanceMethod mX8_readHouses.2.1 ∈ lwg ∧ Cond.selects mX8_readHouses.2.1.cls mX8_readHouses.2.1 mX8_readHouses.2.1 ∈ lwg := ⟨lwg_mem 463 (by decide +kernel) rfl, lwg_mem 2 (by decide +kernel) rfl⟩
def mX8_blame : MD := (RX8, yX8_blame, cX8_blame, 3, none)
theorem okX8_blame : MOK mX8_blame 2 := ⟨lwg_mem 468 (by decide +kernel) rfl, lwg_mem 57 (by decide +kernel) rfl, ⟨rfl, plainFor_of_name (by decide +kernel)⟩, by decide +kernel, by decide⟩
theorem viX8_blame : Cond.instanceMethod mX8_blame.2.1 ∈ lwg ∧ Cond.selects mX8_blame.2.1.cls mX8_blame.2.1 mX8_blame.2.1 ∈ lwg := ⟨lwg_mem 467 (by decide +kernel) rfl, lwg_mem 3 (by decide +kernel) rfl⟩
def mX8_readNumber : MD := (RX8, yX8_readNumber, cX8_readNumber, 5, some .int)
theorem okX8_readNumber : MOK mX8_readNumber 2 := ⟨lwg_mem 472 (by decide +kernel) rfl, lwg_mem 57 (by decide +kernel) rfl, ⟨rfl, plainFor_of_name (by decide +kernel)⟩, by decide +kernel, by decide⟩
theorem viX8_readNumber : Cond.instanceMethod mX8_readNumber.2.1 ∈ lwg ∧ Cond.selects mX8_readNumber.2.1.cls mX8_readNumber.2.1 mX8_readNumber.2.1 ∈ lwg := ⟨lwg_mem 471 (by decide +kernel) rfl, lwg_mem 4 (by decide +kernel) rfl⟩
def mX8_isFigure : MD := (RX8, yX8_isFigure, cX8_isFigure, 1, some .boolean)
theorem okX8_isFigure : MOK mX8_isFigure 1 := ⟨lwg_mem 475 (by decide +kernel) rfl, lwg_mem 57 (by decide +kernel) rfl, ⟨rfl, plainFor_of_name (by decide +kernel)⟩, by decide +kernel, by decide⟩
theorem vsX8_isFigure : Cond.static mX8_isFigure.2.1 ∈ lwg := lwg_mem 474 (by decide +kernel) rfl
def mX8_readEnd : MD := (RX8, yX8_readEnd, cX8_readEnd, 1, none)
theorem okX8_readEnd : MOK mX8_readEnd 0 := ⟨lwg_mem 479 (by decide +kernel) rfl, lwg_mem 57 (by decide +kernel) rfl, ⟨rfl, plainFor_of_name (by decide +kernel)⟩, by decide +kernel, by decide⟩
theorem viX8_readEnd : Cond.instanceMethod mX8_readEnd.2.1 ∈ lwg ∧ Cond.selects mX8_readEnd.2.1.cls mX8_readEnd.2.1 mX8_readEnd.2.1 ∈ lwg := ⟨lwg_mem 478 (by decide +kernel) rfl, lwg_mem 5 (by decide +kernel) rfl⟩
def mX8_readSinger : MD := (RX8, yX8_readSinger, cX8_readSinger, 3, none)
theorem okX8_readSinger : MOK mX8_readSinger 1 := ⟨lwg_mem 483 (by decide +kernel) rfl, lwg_mem 57 (by decide +kernel) rfl, ⟨rfl, plainFor_of_name (by decide +kernel)⟩, by decide +kernel, by decide⟩
theorem viX8_readSinger : Cond.instanceMethod mX8_readSinger.2.1 ∈ lwg ∧ Cond.selects mX8_readSinger.2.1.cls mX8_readSinger.2.1 mX8_readSinger.2.1 ∈ lwg := ⟨lwg_mem 482 (by decide +kernel) rfl, lwg_mem 6 (by decide +kernel) rfl⟩
def mX8_readChild : MD := (RX8, yX8_readChild, cX8_readChild, 3, none)
theorem okX8_readChild : MOK mX8_readChild 1 := ⟨lwg_mem 487 (by decide +kernel) rfl, lwg_mem 57 (by decide +kernel) rfl, ⟨rfl, plainFor_of_name (by decide +kernel)⟩, by decide +kernel, by decide⟩
theorem viX8_readChild : Cond.instanceMethod mX8_readChild.2.1 ∈ lwg ∧ Cond.selects mX8_readChild.2.1.cls mX8_readChild.2.1 mX8_readChild.2.1 ∈ lwg := ⟨lwg_mem 486 (by decide +kernel) rfl, lwg_mem 7 (by decide +kernel) rfl⟩
def mX3_begin : MD := (RX3, yX3_begin, cX3_begin, 3, none)
theorem okX3_begin : MOK mX3_begin 1 := ⟨lwg_mem 491 (by decide +kernel) rfl, lwg_mem 58 (by decide +kernel) rfl, ⟨rfl, plainFor_of_name (by decide +kernel)⟩, by decide +kernel, by decide⟩
theorem viX3_begin : Cond.instanceMethod mX3_begin.2.1 ∈ lwg ∧ Cond.selects mX3_begin.2.1.cls mX3_begin.2.1 mX3_begin.2.1 ∈ lwg := ⟨lwg_mem 489 (by decide +kernel) rfl, lwg_mem 490 (by decide +kernel) rfl⟩
def mX3_beginEvening : MD := (RX3, yX3_beginEvening, cX3_beginEvening, 2, none)
theorem okX3_beginEvening : MOK mX3_beginEvening 0 := ⟨lwg_mem 495 (by decide +kernel) rfl, lwg_mem 58 (by decide +kernel) rfl, ⟨rfl, plainFor_of_name (by decide +kernel)⟩, by decide +kernel, by decide⟩
theorem viX3_beginEvening : Cond.instanceMethod mX3_beginEvening.2.1 ∈ lwg ∧ Cond.selects mX3_beginEvening.2.1.cls mX3_beginEvening.2.1 mX3_beginEvening.2.1 ∈ lwg := ⟨lwg_mem 494 (by decide +kernel) rfl, lwg_mem 8 (by decide +kernel) rfl⟩
def mX6_forget : MD := (RX6, yX6_forget, cX6_forget, 1, none)
theorem okX6_forget : MOK mX6_forget 0 := ⟨lwg_mem 499 (by decide +kernel) rfl, lwg_mem 63 (by decide +kernel) rfl, ⟨rfl, plainFor_of_name (by decide +kernel)⟩, by decide +kernel, by decide⟩
theorem viX6_forget : Cond.instanceMethod mX6_forget.2.1 ∈ lwg ∧ Cond.selects mX6_forget.2.1.cls mX6_forget.2.1 mX6_forget.2.1 ∈ lwg := ⟨lwg_mem 497 (by decide +kernel) rfl, lwg_mem 498 (by decide +kernel) rfl⟩
def mX11_clear : MD := (RX11, yX11_clear, cX11_clear, 1, none)
theorem okX11_clear : MOK mX11_clear 0 := ⟨lwg_mem 503 (by decide +kernel) rfl, lwg_mem 64 (by decide +kernel) rfl, ⟨rfl, plainFor_of_name (by decide +kernel)⟩, by decide +kernel, by decide⟩
theorem viX11_clear : Cond.instanceMethod mX11_clear.2.1 ∈ lwg ∧ Cond.selects mX11_clear.2.1.cls mX11_clear.2.1 mX11_clear.2.1 ∈ lwg := ⟨lwg_mem 501 (by decide +kernel) rfl, lwg_mem 502 (by decide +kernel) rfl⟩
def mX0_clear : MD := (RX0, yX0_clear, cX0_clear, 1, none)
theorem okX0_clear : MOK mX0_clear 0 := ⟨lwg_mem 507 (by decide +kernel) rfl, lwg_mem 65 (by decide +kernel) rfl, ⟨rfl, plainFor_of_name (by decide +kernel)⟩, by decide +kernel, by decide⟩
theorem viX0_clear : Cond.instanceMethod mX0_clear.2.1 ∈ lwg ∧ Cond.selects mX0_clear.2.1.cls mX0_clear.2.1 mX0_clear.2.1 ∈ lwg := ⟨lwg_mem 505 (by decide +kernel) rfl, lwg_mem 506 (by decide +kernel) rfl⟩
def mX12_fault : MD := (RX12, yX12_fault, cX12_fault, 1, some .int)
theorem okX12_fault : MOK mX12_fault 0 := ⟨lwg_mem 511 (by decide +kernel) rfl, lwg_mem 56 (by decide +kernel) rfl, ⟨rfl, plainFor_of_name (by decide +kernel)⟩, by decide +kernel, by decide⟩
theorem viX12_fault : Cond.instanceMethod mX12_fault.2.1 ∈ lwg ∧ Cond.selects mX12_fault.2.1.cls mX12_fault.2.1 mX12_fault.2.1 ∈ lwg := ⟨lwg_mem 509 (by decide +kernel) rfl, lwg_mem 510 (by decide +kernel) rfl⟩
def mX12_told : MD := (RX12, yX12_told, cX12_told, 2, some .int)
theorem okX12_told : MOK mX12_told 1 := ⟨lwg_mem 515 (by decide +kernel) rfl, lwg_mem 56 (by decide +kernel) rfl, ⟨rfl, plainFor_of_name (by decide +kernel)⟩, by decide +kernel, by decide⟩
theorem viX12_told : Cond.instanceMethod mX12_told.2.1 ∈ lwg ∧ Cond.selects mX12_told.2.1.cls mX12_told.2.1 mX12_told.2.1 ∈ lwg := ⟨lwg_mem 513 (by decide +kernel) rfl, lwg_mem 514 (by decide +kernel) rfl⟩
def mX5_freeSingers : MD := (RX5, yX5_freeSingers, cX5_freeSingers, 3, some .int)
theorem okX5_freeSingers : MOK mX5_freeSingers 1 := ⟨lwg_mem 518 (by decide +kernel) rfl, lwg_mem 68 (by decide +kernel) rfl, ⟨rfl, plainFor_of_name (by decide +kernel)⟩, by decide +kernel, by decide⟩
theorem vsX5_freeSingers : Cond.static mX5_freeSingers.2.1 ∈ lwg := lwg_mem 517 (by decide +kernel) rfl
def mX5_allNotches : MD := (RX5, yX5_allNotches, cX5_allNotches, 3, some .int)
theorem okX5_allNotches : MOK mX5_allNotches 1 := ⟨lwg_mem 521 (by decide +kernel) rfl, lwg_mem 68 (by decide +kernel) rfl, ⟨rfl, plainFor_of_name (by decide +kernel)⟩, by decide +kernel, by decide⟩
theorem vsX5_allNotches : Cond.static mX5_allNotches.2.1 ∈ lwg := lwg_mem 520 (by decide +kernel) rfl
def mX5_lastSinger : MD := (RX5, yX5_lastSinger, cX5_lastSinger, 4, some .int)
theorem okX5_lastSinger : MOK mX5_lastSinger 1 := ⟨lwg_mem 524 (by decide +kernel) rfl, lwg_mem 68 (by decide +kernel) rfl, ⟨rfl, plainFor_of_name (by decide +kernel)⟩, by decide +kernel, by decide⟩
theorem vsX5_lastSinger : Cond.static mX5_lastSinger.2.1 ∈ lwg := lwg_mem 523 (by decide +kernel) rfl
def mX5_hardestChild : MD := (RX5, yX5_hardestChild, cX5_hardestChild, 5, some .int)
theorem okX5_hardestChild : MOK mX5_hardestChild 1 := ⟨lwg_mem 527 (by decide +kernel) rfl, lwg_mem 68 (by decide +kernel) rfl, ⟨rfl, plainFor_of_name (by decide +kernel)⟩, by decide +kernel, by decide⟩
theorem vsX5_hardestChild : Cond.static mX5_hardestChild.2.1 ∈ lwg := lwg_mem 526 (by decide +kernel) rfl
def mX3_needsOf : MD := (RX3, yX3_needsOf, cX3_needsOf, 4, some .int)
theorem okX3_needsOf : MOK mX3_needsOf 1 := ⟨lwg_mem 531 (by decide +kernel) rfl, lwg_mem 58 (by decide +kernel) rfl, ⟨rfl, plainFor_of_name (by decide +kernel)⟩, by decide +kernel, by decide⟩
theorem viX3_needsOf : Cond.instanceMethod mX3_needsOf.2.1 ∈ lwg ∧ Cond.selects mX3_needsOf.2.1.cls mX3_needsOf.2.1 mX3_needsOf.2.1 ∈ lwg := ⟨lwg_mem 529 (by decide +kernel) rfl, lwg_mem 530 (by decide +kernel) rfl⟩
def mX3_isAwake : MD := (RX3, yX3_isAwake, cX3_isAwake, 2, some .boolean)
theorem okX3_isAwake : MOK mX3_isAwake 1 := ⟨lwg_mem 535 (by decide +kernel) rfl, lwg_mem 58 (by decide +kernel) rfl, ⟨rfl, plainFor_of_name (by decide +kernel)⟩, by decide +kernel, by decide⟩
theorem viX3_isAwake : Cond.instanceMethod mX3_isAwake.2.1 ∈ lwg ∧ Cond.selects mX3_isAwake.2.1.cls mX3_isAwake.2.1 mX3_isAwake.2.1 ∈ lwg := ⟨lwg_mem 533 (by decide +kernel) rfl, lwg_mem 534 (by decide +kernel) rfl⟩
def mX5_spreadOfChildren : MD := (RX5, yX5_spreadOfChildren, cX5_spreadOfChildren, 4, some .int)
theorem okX5_spreadOfChildren : MOK mX5_spreadOfChildren 1 := ⟨lwg_mem 541 (by decide +kernel) rfl, lwg_mem 68 (by decide +kernel) rfl, ⟨rfl, plainFor_of_name (by decide +kernel)⟩, by decide +kernel, by decide⟩
theorem vsX5_spreadOfChildren : Cond.static mX5_spreadOfChildren.2.1 ∈ lwg := lwg_mem 540 (by decide +kernel) rfl
def mX7_mostAsleep : MD := (RX7, yX7_mostAsleep, cX7_mostAsleep, 2, some .int)
theorem okX7_mostAsleep : MOK mX7_mostAsleep 1 := ⟨lwg_mem 549 (by decide +kernel) rfl, lwg_mem 61 (by decide +kernel) rfl, ⟨rfl, plainFor_of_name (by decide +kernel)⟩, by decide +kernel, by decide⟩
theorem viX7_mostAsleep : Cond.instanceMethod mX7_mostAsleep.2.1 ∈ lwg ∧ Cond.selects mX7_mostAsleep.2.1.cls mX7_mostAsleep.2.1 mX7_mostAsleep.2.1 ∈ lwg := ⟨lwg_mem 547 (by decide +kernel) rfl, lwg_mem 548 (by decide +kernel) rfl⟩
def mX7_weigh : MD := (RX7, yX7_weigh, cX7_weigh, 6, none)
theorem okX7_weigh : MOK mX7_weigh 2 := ⟨lwg_mem 553 (by decide +kernel) rfl, lwg_mem 61 (by decide +kernel) rfl, ⟨rfl, plainFor_of_name (by decide +kernel)⟩, by decide +kernel, by decide⟩
theorem viX7_weigh : Cond.instanceMethod mX7_weigh.2.1 ∈ lwg ∧ Cond.selects mX7_weigh.2.1.cls mX7_weigh.2.1 mX7_weigh.2.1 ∈ lwg := ⟨lwg_mem 552 (by decide +kernel) rfl, lwg_mem 9 (by decide +kernel) rfl⟩
def mX3_wouldPay : MD := (RX3, yX3_wouldPay, cX3_wouldPay, 3, some .int)
theorem okX3_wouldPay : MOK mX3_wouldPay 2 := ⟨lwg_mem 557 (by decide +kernel) rfl, lwg_mem 58 (by decide +kernel) rfl, ⟨rfl, plainFor_of_name (by decide +kernel)⟩, by decide +kernel, by decide⟩
theorem viX3_wouldPay : Cond.instanceMethod mX3_wouldPay.2.1 ∈ lwg ∧ Cond.selects mX3_wouldPay.2.1.cls mX3_wouldPay.2.1 mX3_wouldPay.2.1 ∈ lwg := ⟨lwg_mem 555 (by decide +kernel) rfl, lwg_mem 556 (by decide +kernel) rfl⟩
def mX3_couldPutDown : MD := (RX3, yX3_couldPutDown, cX3_couldPutDown, 3, some .boolean)
theorem okX3_couldPutDown : MOK mX3_couldPutDown 2 := ⟨lwg_mem 561 (by decide +kernel) rfl, lwg_mem 58 (by decide +kernel) rfl, ⟨rfl, plainFor_of_name (by decide +kernel)⟩, by decide +kernel, by decide⟩
theorem viX3_couldPutDown : Cond.instanceMethod mX3_couldPutDown.2.1 ∈ lwg ∧ Cond.selects mX3_couldPutDown.2.1.cls mX3_couldPutDown.2.1 mX3_couldPutDown.2.1 ∈ lwg := ⟨lwg_mem 559 (by decide +kernel) rfl, lwg_mem 560 (by decide +kernel) rfl⟩
def mX3_stepsTo : MD := (RX3, yX3_stepsTo, cX3_stepsTo, 3, some .int)
theorem okX3_stepsTo : MOK mX3_stepsTo 2 := ⟨lwg_mem 565 (by decide +kernel) rfl, lwg_mem 58 (by decide +kernel) rfl, ⟨rfl, plainFor_of_name (by decide +kernel)⟩, by decide +kernel, by decide⟩
theorem viX3_stepsTo : Cond.instanceMethod mX3_stepsTo.2.1 ∈ lwg ∧ Cond.selects mX3_stepsTo.2.1.cls mX3_stepsTo.2.1 mX3_stepsTo.2.1 ∈ lwg := ⟨lwg_mem 563 (by decide +kernel) rfl, lwg_mem 564 (by decide +kernel) rfl⟩
def mX3_songPaysTo : MD := (RX3, yX3_songPaysTo, cX3_songPaysTo, 3, some .int)
theorem okX3_songPaysTo : MOK mX3_songPaysTo 2 := ⟨lwg_mem 573 (by decide +kernel) rfl, lwg_mem 58 (by decide +kernel) rfl, ⟨rfl, plainFor_of_name (by decide +kernel)⟩, by decide +kernel, by decide⟩
theorem viX3_songPaysTo : Cond.instanceMethod mX3_songPaysTo.2.1 ∈ lwg ∧ Cond.selects mX3_songPaysTo.2.1.cls mX3_songPaysTo.2.1 mX3_songPaysTo.2.1 ∈ lwg := ⟨lwg_mem 571 (by decide +kernel) rfl, lwg_mem 572 (by decide +kernel) rfl⟩
def mX3_songPays : MD := (RX3, yX3_songPays, cX3_songPays, 3, some .int)
theorem okX3_songPays : MOK mX3_songPays 2 := ⟨lwg_mem 577 (by decide +kernel) rfl, lwg_mem 58 (by decide +kernel) rfl, ⟨rfl, plainFor_of_name (by decide +kernel)⟩, by decide +kernel, by decide⟩
theorem viX3_songPays : Cond.instanceMethod mX3_songPays.2.1 ∈ lwg ∧ Cond.selects mX3_songPays.2.1.cls mX3_songPays.2.1 mX3_songPays.2.1 ∈ lwg := ⟨lwg_mem 575 (by decide +kernel) rfl, lwg_mem 576 (by decide +kernel) rfl⟩
def mX7_solve : MD := (RX7, yX7_solve, cX7_solve, 4, none)
theorem okX7_solve : MOK mX7_solve 0 := ⟨lwg_mem 583 (by decide +kernel) rfl, lwg_mem 61 (by decide +kernel) rfl, ⟨rfl, plainFor_of_name (by decide +kernel)⟩, by decide +kernel, by decide⟩
theorem viX7_solve : Cond.instanceMethod mX7_solve.2.1 ∈ lwg ∧ Cond.selects mX7_solve.2.1.cls mX7_solve.2.1 mX7_solve.2.1 ∈ lwg := ⟨lwg_mem 582 (by decide +kernel) rfl, lwg_mem 10 (by decide +kernel) rfl⟩
def mX7_bestFrom : MD := (RX7, yX7_bestFrom, cX7_bestFrom, 5, some .int)
theorem okX7_bestFrom : MOK mX7_bestFrom 2 := ⟨lwg_mem 587 (by decide +kernel) rfl, lwg_mem 61 (by decide +kernel) rfl, ⟨rfl, plainFor_of_name (by decide +kernel)⟩, by decide +kernel, by decide⟩
theorem viX7_bestFrom : Cond.instanceMethod mX7_bestFrom.2.1 ∈ lwg ∧ Cond.selects mX7_bestFrom.2.1.cls mX7_bestFrom.2.1 mX7_bestFrom.2.1 ∈ lwg := ⟨lwg_mem 586 (by decide +kernel) rfl, lwg_mem 11 (by decide +kernel) rfl⟩
def mX7_isOpen : MD := (RX7, yX7_isOpen, cX7_isOpen, 4, some .boolean)
theorem okX7_isOpen : MOK mX7_isOpen 3 := ⟨lwg_mem 591 (by decide +kernel) rfl, lwg_mem 61 (by decide +kernel) rfl, ⟨rfl, plainFor_of_name (by decide +kernel)⟩, by decide +kernel, by decide⟩
theorem viX7_isOpen : Cond.instanceMethod mX7_isOpen.2.1 ∈ lwg ∧ Cond.selects mX7_isOpen.2.1.cls mX7_isOpen.2.1 mX7_isOpen.2.1 ∈ lwg := ⟨lwg_mem 590 (by decide +kernel) rfl, lwg_mem 12 (by decide +kernel) rfl⟩
def mX7_reachedWith : MD := (RX7, yX7_reachedWith, cX7_reachedWith, 4, some .int)
theorem okX7_reachedWith : MOK mX7_reachedWith 3 := ⟨lwg_mem 595 (by decide +kernel) rfl, lwg_mem 61 (by decide +kernel) rfl, ⟨rfl, plainFor_of_name (by decide +kernel)⟩, by decide +kernel, by decide⟩
theorem viX7_reachedWith : Cond.instanceMethod mX7_reachedWith.2.1 ∈ lwg ∧ Cond.selects mX7_reachedWith.2.1.cls mX7_reachedWith.2.1 mX7_reachedWith.2.1 ∈ lwg := ⟨lwg_mem 594 (by decide +kernel) rfl, lwg_mem 13 (by decide +kernel) rfl⟩
def mX5_willDefault : MD := (RX5, yX5_willDefault, cX5_willDefault, 3, some .int)
theorem okX5_willDefault : MOK mX5_willDefault 1 := ⟨lwg_mem 599 (by decide +kernel) rfl, lwg_mem 68 (by decide +kernel) rfl, ⟨rfl, plainFor_of_name (by decide +kernel)⟩, by decide +kernel, by decide⟩
theorem vsX5_willDefault : Cond.static mX5_willDefault.2.1 ∈ lwg := lwg_mem 598 (by decide +kernel) rfl
def mX5_eveningsTillFree : MD := (RX5, yX5_eveningsTillFree, cX5_eveningsTillFree, 4, some .int)
theorem okX5_eveningsTillFree : MOK mX5_eveningsTillFree 2 := ⟨lwg_mem 602 (by decide +kernel) rfl, lwg_mem 68 (by decide +kernel) rfl, ⟨rfl, plainFor_of_name (by decide +kernel)⟩, by decide +kernel, by decide⟩
theorem vsX5_eveningsTillFree : Cond.static mX5_eveningsTillFree.2.1 ∈ lwg := lwg_mem 601 (by decide +kernel) rfl
def mX5_eveningsTillDue : MD := (RX5, yX5_eveningsTillDue, cX5_eveningsTillDue, 3, some .int)
theorem okX5_eveningsTillDue : MOK mX5_eveningsTillDue 2 := ⟨lwg_mem 606 (by decide +kernel) rfl, lwg_mem 68 (by decide +kernel) rfl, ⟨rfl, plainFor_of_name (by decide +kernel)⟩, by decide +kernel, by decide⟩
theorem vsX5_eveningsTillDue : Cond.static mX5_eveningsTillDue.2.1 ∈ lwg := lwg_mem 605 (by decide +kernel) rfl
def mX12_singer : MD := (RX12, yX12_singer, cX12_singer, 3, some .int)
theorem okX12_singer : MOK mX12_singer 2 := ⟨lwg_mem 610 (by decide +kernel) rfl, lwg_mem 56 (by decide +kernel) rfl, ⟨rfl, plainFor_of_name (by decide +kernel)⟩, by decide +kernel, by decide⟩
theorem viX12_singer : Cond.instanceMethod mX12_singer.2.1 ∈ lwg ∧ Cond.selects mX12_singer.2.1.cls mX12_singer.2.1 mX12_singer.2.1 ∈ lwg := ⟨lwg_mem 608 (by decide +kernel) rfl, lwg_mem 609 (by decide +kernel) rfl⟩
def mX3_hasSinger : MD := (RX3, yX3_hasSinger, cX3_hasSinger, 2, some .boolean)
theorem okX3_hasSinger : MOK mX3_hasSinger 1 := ⟨lwg_mem 614 (by decide +kernel) rfl, lwg_mem 58 (by decide +kernel) rfl, ⟨rfl, plainFor_of_name (by decide +kernel)⟩, by decide +kernel, by decide⟩
theorem viX3_hasSinger : Cond.instanceMethod mX3_hasSinger.2.1 ∈ lwg ∧ Cond.selects mX3_hasSinger.2.1.cls mX3_hasSinger.2.1 mX3_hasSinger.2.1 ∈ lwg := ⟨lwg_mem 612 (by decide +kernel) rfl, lwg_mem 613 (by decide +kernel) rfl⟩
def mX12_child : MD := (RX12, yX12_child, cX12_child, 3, some .int)
theorem okX12_child : MOK mX12_child 2 := ⟨lwg_mem 620 (by decide +kernel) rfl, lwg_mem 56 (by decide +kernel) rfl, ⟨rfl, plainFor_of_name (by decide +kernel)⟩, by decide +kernel, by decide⟩
theorem viX12_child : Cond.instanceMethod mX12_child.2.1 ∈ lwg ∧ Cond.selects mX12_child.2.1.cls mX12_child.2.1 mX12_child.2.1 ∈ lwg := ⟨lwg_mem 618 (by decide +kernel) rfl, lwg_mem 619 (by decide +kernel) rfl⟩
def mX3_hasChild : MD := (RX3, yX3_hasChild, cX3_hasChild, 2, some .boolean)
theorem okX3_hasChild : MOK mX3_hasChild 1 := ⟨lwg_mem 624 (by decide +kernel) rfl, lwg_mem 58 (by decide +kernel) rfl, ⟨rfl, plainFor_of_name (by decide +kernel)⟩, by decide +kernel, by decide⟩
theorem viX3_hasChild : Cond.instanceMethod mX3_hasChild.2.1 ∈ lwg ∧ Cond.selects mX3_hasChild.2.1.cls mX3_hasChild.2.1 mX3_hasChild.2.1 ∈ lwg := ⟨lwg_mem 622 (by decide +kernel) rfl, lwg_mem 623 (by decide +kernel) rfl⟩
def mX12_go : MD := (RX12, yX12_go, cX12_go, 3, some .int)
theorem okX12_go : MOK mX12_go 2 := ⟨lwg_mem 630 (by decide +kernel) rfl, lwg_mem 56 (by decide +kernel) rfl, ⟨rfl, plainFor_of_name (by decide +kernel)⟩, by decide +kernel, by decide⟩
theorem viX12_go : Cond.instanceMethod mX12_go.2.1 ∈ lwg ∧ Cond.selects mX12_go.2.1.cls mX12_go.2.1 mX12_go.2.1 ∈ lwg := ⟨lwg_mem 628 (by decide +kernel) rfl, lwg_mem 629 (by decide +kernel) rfl⟩
def mX3_mayWalk : MD := (RX3, yX3_mayWalk, cX3_mayWalk, 3, some .boolean)
theorem okX3_mayWalk : MOK mX3_mayWalk 2 := ⟨lwg_mem 634 (by decide +kernel) rfl, lwg_mem 58 (by decide +kernel) rfl, ⟨rfl, plainFor_of_name (by decide +kernel)⟩, by decide +kernel, by decide⟩
theorem viX3_mayWalk : Cond.instanceMethod mX3_mayWalk.2.1 ∈ lwg ∧ Cond.selects mX3_mayWalk.2.1.cls mX3_mayWalk.2.1 mX3_mayWalk.2.1 ∈ lwg := ⟨lwg_mem 632 (by decide +kernel) rfl, lwg_mem 633 (by decide +kernel) rfl⟩
def mX6_remember : MD := (RX6, yX6_remember, cX6_remember, 2, none)
theorem okX6_remember : MOK mX6_remember 1 := ⟨lwg_mem 639 (by decide +kernel) rfl, lwg_mem 63 (by decide +kernel) rfl, ⟨rfl, plainFor_of_name (by decide +kernel)⟩, by decide +kernel, by decide⟩
theorem viX6_remember : Cond.instanceMethod mX6_remember.2.1 ∈ lwg ∧ Cond.selects mX6_remember.2.1.cls mX6_remember.2.1 mX6_remember.2.1 ∈ lwg := ⟨lwg_mem 637 (by decide +kernel) rfl, lwg_mem 638 (by decide +kernel) rfl⟩
def mX4_copyFrom : MD := (RX4, yX4_copyFrom, cX4_copyFrom, 2, none)
theorem okX4_copyFrom : MOK mX4_copyFrom 1 := ⟨lwg_mem 643 (by decide +kernel) rfl, lwg_mem 59 (by decide +kernel) rfl, ⟨rfl, plainFor_of_name (by decide +kernel)⟩, by decide +kernel, by decide⟩
theorem viX4_copyFrom : Cond.instanceMethod mX4_copyFrom.2.1 ∈ lwg ∧ Cond.selects mX4_copyFrom.2.1.cls mX4_copyFrom.2.1 mX4_copyFrom.2.1 ∈ lwg := ⟨lwg_mem 641 (by decide +kernel) rfl, lwg_mem 642 (by decide +kernel) rfl⟩
def mX3_walk : MD := (RX3, yX3_walk, cX3_walk, 3, none)
theorem okX3_walk : MOK mX3_walk 2 := ⟨lwg_mem 651 (by decide +kernel) rfl, lwg_mem 58 (by decide +kernel) rfl, ⟨rfl, plainFor_of_name (by decide +kernel)⟩, by decide +kernel, by decide⟩
theorem viX3_walk : Cond.instanceMethod mX3_walk.2.1 ∈ lwg ∧ Cond.selects mX3_walk.2.1.cls mX3_walk.2.1 mX3_walk.2.1 ∈ lwg := ⟨lwg_mem 649 (by decide +kernel) rfl, lwg_mem 650 (by decide +kernel) rfl⟩
def mX12_sing : MD := (RX12, yX12_sing, cX12_sing, 3, some .int)
theorem okX12_sing : MOK mX12_sing 2 := ⟨lwg_mem 655 (by decide +kernel) rfl, lwg_mem 56 (by decide +kernel) rfl, ⟨rfl, plainFor_of_name (by decide +kernel)⟩, by decide +kernel, by decide⟩
theorem viX12_sing : Cond.instanceMethod mX12_sing.2.1 ∈ lwg ∧ Cond.selects mX12_sing.2.1.cls mX12_sing.2.1 mX12_sing.2.1 ∈ lwg := ⟨lwg_mem 653 (by decide +kernel) rfl, lwg_mem 654 (by decide +kernel) rfl⟩
def mX3_hasBoth : MD := (RX3, yX3_hasBoth, cX3_hasBoth, 3, some .boolean)
theorem okX3_hasBoth : MOK mX3_hasBoth 2 := ⟨lwg_mem 659 (by decide +kernel) rfl, lwg_mem 58 (by decide +kernel) rfl, ⟨rfl, plainFor_of_name (by decide +kernel)⟩, by decide +kernel, by decide⟩
theorem viX3_hasBoth : Cond.instanceMethod mX3_hasBoth.2.1 ∈ lwg ∧ Cond.selects mX3_hasBoth.2.1.cls mX3_hasBoth.2.1 mX3_hasBoth.2.1 ∈ lwg := ⟨lwg_mem 657 (by decide +kernel) rfl, lwg_mem 658 (by decide +kernel) rfl⟩
def mX3_mayLull : MD := (RX3, yX3_mayLull, cX3_mayLull, 3, some .boolean)
theorem okX3_mayLull : MOK mX3_mayLull 2 := ⟨lwg_mem 665 (by decide +kernel) rfl, lwg_mem 58 (by decide +kernel) rfl, ⟨rfl, plainFor_of_name (by decide +kernel)⟩, by decide +kernel, by decide⟩
theorem viX3_mayLull : Cond.instanceMethod mX3_mayLull.2.1 ∈ lwg ∧ Cond.selects mX3_mayLull.2.1.cls mX3_mayLull.2.1 mX3_mayLull.2.1 ∈ lwg := ⟨lwg_mem 663 (by decide +kernel) rfl, lwg_mem 664 (by decide +kernel) rfl⟩
def mX3_lull : MD := (RX3, yX3_lull, cX3_lull, 5, some .int)
theorem okX3_lull : MOK mX3_lull 2 := ⟨lwg_mem 669 (by decide +kernel) rfl, lwg_mem 58 (by decide +kernel) rfl, ⟨rfl, plainFor_of_name (by decide +kernel)⟩, by decide +kernel, by decide⟩
theorem viX3_lull : Cond.instanceMethod mX3_lull.2.1 ∈ lwg ∧ Cond.selects mX3_lull.2.1.cls mX3_lull.2.1 mX3_lull.2.1 ∈ lwg := ⟨lwg_mem 667 (by decide +kernel) rfl, lwg_mem 668 (by decide +kernel) rfl⟩
def mX12_carry : MD := (RX12, yX12_carry, cX12_carry, 3, some .int)
theorem okX12_carry : MOK mX12_carry 2 := ⟨lwg_mem 673 (by decide +kernel) rfl, lwg_mem 56 (by decide +kernel) rfl, ⟨rfl, plainFor_of_name (by decide +kernel)⟩, by decide +kernel, by decide⟩
theorem viX12_carry : Cond.instanceMethod mX12_carry.2.1 ∈ lwg ∧ Cond.selects mX12_carry.2.1.cls mX12_carry.2.1 mX12_carry.2.1 ∈ lwg := ⟨lwg_mem 671 (by decide +kernel) rfl, lwg_mem 672 (by decide +kernel) rfl⟩
def mX3_mayPass : MD := (RX3, yX3_mayPass, cX3_mayPass, 4, some .boolean)
theorem okX3_mayPass : MOK mX3_mayPass 2 := ⟨lwg_mem 677 (by decide +kernel) rfl, lwg_mem 58 (by decide +kernel) rfl, ⟨rfl, plainFor_of_name (by decide +kernel)⟩, by decide +kernel, by decide⟩
theorem viX3_mayPass : Cond.instanceMethod mX3_mayPass.2.1 ∈ lwg ∧ Cond.selects mX3_mayPass.2.1.cls mX3_mayPass.2.1 mX3_mayPass.2.1 ∈ lwg := ⟨lwg_mem 675 (by decide +kernel) rfl, lwg_mem 676 (by decide +kernel) rfl⟩
def mX3_pass : MD := (RX3, yX3_pass, cX3_pass, 3, none)
theorem okX3_pass : MOK mX3_pass 2 := ⟨lwg_mem 681 (by decide +kernel) rfl, lwg_mem 58 (by decide +kernel) rfl, ⟨rfl, plainFor_of_name (by decide +kernel)⟩, by decide +kernel, by decide⟩
theorem viX3_pass : Cond.instanceMethod mX3_pass.2.1 ∈ lwg ∧ Cond.selects mX3_pass.2.1.cls mX3_pass.2.1 mX3_pass.2.1 ∈ lwg := ⟨lwg_mem 679 (by decide +kernel) rfl, lwg_mem 680 (by decide +kernel) rfl⟩
def mX12_evening : MD := (RX12, yX12_evening, cX12_evening, 4, some .int)
theorem okX12_evening : MOK mX12_evening 1 := ⟨lwg_mem 685 (by decide +kernel) rfl, lwg_mem 56 (by decide +kernel) rfl, ⟨rfl, plainFor_of_name (by decide +kernel)⟩, by decide +kernel, by decide⟩
theorem viX12_evening : Cond.instanceMethod mX12_evening.2.1 ∈ lwg ∧ Cond.selects mX12_evening.2.1.cls mX12_evening.2.1 mX12_evening.2.1 ∈ lwg := ⟨lwg_mem 683 (by decide +kernel) rfl, lwg_mem 684 (by decide +kernel) rfl⟩
def mX12_refuseTimes : MD := (RX12, yX12_refuseTimes, cX12_refuseTimes, 2, some .int)
theorem okX12_refuseTimes : MOK mX12_refuseTimes 1 := ⟨lwg_mem 689 (by decide +kernel) rfl, lwg_mem 56 (by decide +kernel) rfl, ⟨rfl, plainFor_of_name (by decide +kernel)⟩, by decide +kernel, by decide⟩
theorem viX12_refuseTimes : Cond.instanceMethod mX12_refuseTimes.2.1 ∈ lwg ∧ Cond.selects mX12_refuseTimes.2.1.cls mX12_refuseTimes.2.1 mX12_refuseTimes.2.1 ∈ lwg := ⟨lwg_mem 688 (by decide +kernel) rfl, lwg_mem 14 (by decide +kernel) rfl⟩
def mX3_endEvening : MD := (RX3, yX3_endEvening, cX3_endEvening, 1, none)
theorem okX3_endEvening : MOK mX3_endEvening 0 := ⟨lwg_mem 693 (by decide +kernel) rfl, lwg_mem 58 (by decide +kernel) rfl, ⟨rfl, plainFor_of_name (by decide +kernel)⟩, by decide +kernel, by decide⟩
theorem viX3_endEvening : Cond.instanceMethod mX3_endEvening.2.1 ∈ lwg ∧ Cond.selects mX3_endEvening.2.1.cls mX3_endEvening.2.1 mX3_endEvening.2.1 ∈ lwg := ⟨lwg_mem 691 (by decide +kernel) rfl, lwg_mem 692 (by decide +kernel) rfl⟩
def mX3_addYear : MD := (RX3, yX3_addYear, cX3_addYear, 2, none)
theorem okX3_addYear : MOK mX3_addYear 0 := ⟨lwg_mem 697 (by decide +kernel) rfl, lwg_mem 58 (by decide +kernel) rfl, ⟨rfl, plainFor_of_name (by decide +kernel)⟩, by decide +kernel, by decide⟩
theorem viX3_addYear : Cond.instanceMethod mX3_addYear.2.1 ∈ lwg ∧ Cond.selects mX3_addYear.2.1.cls mX3_addYear.2.1 mX3_addYear.2.1 ∈ lwg := ⟨lwg_mem 696 (by decide +kernel) rfl, lwg_mem 15 (by decide +kernel) rfl⟩
def mX12_drift : MD := (RX12, yX12_drift, cX12_drift, 4, some .int)
theorem okX12_drift : MOK mX12_drift 1 := ⟨lwg_mem 701 (by decide +kernel) rfl, lwg_mem 56 (by decide +kernel) rfl, ⟨rfl, plainFor_of_name (by decide +kernel)⟩, by decide +kernel, by decide⟩
theorem viX12_drift : Cond.instanceMethod mX12_drift.2.1 ∈ lwg ∧ Cond.selects mX12_drift.2.1.cls mX12_drift.2.1 mX12_drift.2.1 ∈ lwg := ⟨lwg_mem 699 (by decide +kernel) rfl, lwg_mem 700 (by decide +kernel) rfl⟩
def mX12_doByDraws : MD := (RX12, yX12_doByDraws, cX12_doByDraws, 4, none)
theorem okX12_doByDraws : MOK mX12_doByDraws 0 := ⟨lwg_mem 705 (by decide +kernel) rfl, lwg_mem 56 (by decide +kernel) rfl, ⟨rfl, plainFor_of_name (by decide +kernel)⟩, by decide +kernel, by decide⟩
theorem viX12_doByDraws : Cond.instanceMethod mX12_doByDraws.2.1 ∈ lwg ∧ Cond.selects mX12_doByDraws.2.1.cls mX12_doByDraws.2.1 mX12_doByDraws.2.1 ∈ lwg := ⟨lwg_mem 704 (by decide +kernel) rfl, lwg_mem 16 (by decide +kernel) rfl⟩
def mX12_drawOf : MD := (RX12, yX12_drawOf, cX12_drawOf, 2, some .int)
theorem okX12_drawOf : MOK mX12_drawOf 1 := ⟨lwg_mem 709 (by decide +kernel) rfl, lwg_mem 56 (by decide +kernel) rfl, ⟨rfl, plainFor_of_name (by decide +kernel)⟩, by decide +kernel, by decide⟩
theorem viX12_drawOf : Cond.instanceMethod mX12_drawOf.2.1 ∈ lwg ∧ Cond.selects mX12_drawOf.2.1.cls mX12_drawOf.2.1 mX12_drawOf.2.1 ∈ lwg := ⟨lwg_mem 708 (by decide +kernel) rfl, lwg_mem 17 (by decide +kernel) rfl⟩
def mX3_visit : MD := (RX3, yX3_visit, cX3_visit, 3, none)
theorem okX3_visit : MOK mX3_visit 2 := ⟨lwg_mem 717 (by decide +kernel) rfl, lwg_mem 58 (by decide +kernel) rfl, ⟨rfl, plainFor_of_name (by decide +kernel)⟩, by decide +kernel, by decide⟩
theorem viX3_visit : Cond.instanceMethod mX3_visit.2.1 ∈ lwg ∧ Cond.selects mX3_visit.2.1.cls mX3_visit.2.1 mX3_visit.2.1 ∈ lwg := ⟨lwg_mem 715 (by decide +kernel) rfl, lwg_mem 716 (by decide +kernel) rfl⟩
def mX12_undo : MD := (RX12, yX12_undo, cX12_undo, 2, some .int)
theorem okX12_undo : MOK mX12_undo 1 := ⟨lwg_mem 725 (by decide +kernel) rfl, lwg_mem 56 (by decide +kernel) rfl, ⟨rfl, plainFor_of_name (by decide +kernel)⟩, by decide +kernel, by decide⟩
theorem viX12_undo : Cond.instanceMethod mX12_undo.2.1 ∈ lwg ∧ Cond.selects mX12_undo.2.1.cls mX12_undo.2.1 mX12_undo.2.1 ∈ lwg := ⟨lwg_mem 723 (by decide +kernel) rfl, lwg_mem 724 (by decide +kernel) rfl⟩
def mX6_takeBack : MD := (RX6, yX6_takeBack, cX6_takeBack, 3, none)
theorem okX6_takeBack : MOK mX6_takeBack 2 := ⟨lwg_mem 729 (by decide +kernel) rfl, lwg_mem 63 (by decide +kernel) rfl, ⟨rfl, plainFor_of_name (by decide +kernel)⟩, by decide +kernel, by decide⟩
theorem viX6_takeBack : Cond.instanceMethod mX6_takeBack.2.1 ∈ lwg ∧ Cond.selects mX6_takeBack.2.1.cls mX6_takeBack.2.1 mX6_takeBack.2.1 ∈ lwg := ⟨lwg_mem 727 (by decide +kernel) rfl, lwg_mem 728 (by decide +kernel) rfl⟩
def mJ9_floorMod_7cf53 : MD := (RJ9, yJ9_floorMod_7cf53, cJ9_floorMod_7cf53, 3, some .int)
theorem okJ9_floorMod_7cf53 : MOK mJ9_floorMod_7cf53 2 := ⟨lwg_mem 732 (by decide +kernel) rfl, lwg_mem 69 (by decide +kernel) rfl, ⟨rfl, by decide +kernel⟩, by decide +kernel, by decide⟩
theorem vsJ9_floorMod_7cf53 : Cond.static mJ9_floorMod_7cf53.2.1 ∈ lwg := lwg_mem 731 (by decide +kernel) rfl
def mX12_steps : MD := (RX12, yX12_steps, cX12_steps, 3, some .int)
theorem okX12_steps : MOK mX12_steps 2 := ⟨lwg_mem 736 (by decide +kernel) rfl, lwg_mem 56 (by decide +kernel) rfl, ⟨rfl, plainFor_of_name (by decide +kernel)⟩, by decide +kernel, by decide⟩
theorem viX12_steps : Cond.instanceMethod mX12_steps.2.1 ∈ lwg ∧ Cond.selects mX12_steps.2.1.cls mX12_steps.2.1 mX12_steps.2.1 ∈ lwg := ⟨lwg_mem 734 (by decide +kernel) rfl, lwg_mem 735 (by decide +kernel) rfl⟩
def mX12_can : MD := (RX12, yX12_can, cX12_can, 3, some .int)
theorem okX12_can : MOK mX12_can 2 := ⟨lwg_mem 741 (by decide +kernel) rfl, lwg_mem 56 (by decide +kernel) rfl, ⟨rfl, plainFor_of_name (by decide +kernel)⟩, by decide +kernel, by decide⟩
theorem viX12_can : Cond.instanceMethod mX12_can.2.1 ∈ lwg ∧ Cond.selects mX12_can.2.1.cls mX12_can.2.1 mX12_can.2.1 ∈ lwg := ⟨lwg_mem 739 (by decide +kernel) rfl, lwg_mem 740 (by decide +kernel) rfl⟩
def mX12_pays : MD := (RX12, yX12_pays, cX12_pays, 3, some .int)
theorem okX12_pays : MOK mX12_pays 2 := ⟨lwg_mem 746 (by decide +kernel) rfl, lwg_mem 56 (by decide +kernel) rfl, ⟨rfl, plainFor_of_name (by decide +kernel)⟩, by decide +kernel, by decide⟩
theorem viX12_pays : Cond.instanceMethod mX12_pays.2.1 ∈ lwg ∧ Cond.selects mX12_pays.2.1.cls mX12_pays.2.1 mX12_pays.2.1 ∈ lwg := ⟨lwg_mem 744 (by decide +kernel) rfl, lwg_mem 745 (by decide +kernel) rfl⟩
def mX12_plan : MD := (RX12, yX12_plan, cX12_plan, 2, some .int)
theorem okX12_plan : MOK mX12_plan 1 := ⟨lwg_mem 751 (by decide +kernel) rfl, lwg_mem 56 (by decide +kernel) rfl, ⟨rfl, plainFor_of_name (by decide +kernel)⟩, by decide +kernel, by decide⟩
theorem viX12_plan : Cond.instanceMethod mX12_plan.2.1 ∈ lwg ∧ Cond.selects mX12_plan.2.1.cls mX12_plan.2.1 mX12_plan.2.1 ∈ lwg := ⟨lwg_mem 749 (by decide +kernel) rfl, lwg_mem 750 (by decide +kernel) rfl⟩
def mX7_mostPaid : MD := (RX7, yX7_mostPaid, cX7_mostPaid, 2, some .int)
theorem okX7_mostPaid : MOK mX7_mostPaid 1 := ⟨lwg_mem 755 (by decide +kernel) rfl, lwg_mem 61 (by decide +kernel) rfl, ⟨rfl, plainFor_of_name (by decide +kernel)⟩, by decide +kernel, by decide⟩
theorem viX7_mostPaid : Cond.instanceMethod mX7_mostPaid.2.1 ∈ lwg ∧ Cond.selects mX7_mostPaid.2.1.cls mX7_mostPaid.2.1 mX7_mostPaid.2.1 ∈ lwg := ⟨lwg_mem 753 (by decide +kernel) rfl, lwg_mem 754 (by decide +kernel) rfl⟩
def mX7_childOf : MD := (RX7, yX7_childOf, cX7_childOf, 6, some .int)
theorem okX7_childOf : MOK mX7_childOf 2 := ⟨lwg_mem 759 (by decide +kernel) rfl, lwg_mem 61 (by decide +kernel) rfl, ⟨rfl, plainFor_of_name (by decide +kernel)⟩, by decide +kernel, by decide⟩
theorem viX7_childOf : Cond.instanceMethod mX7_childOf.2.1 ∈ lwg ∧ Cond.selects mX7_childOf.2.1.cls mX7_childOf.2.1 mX7_childOf.2.1 ∈ lwg := ⟨lwg_mem 757 (by decide +kernel) rfl, lwg_mem 758 (by decide +kernel) rfl⟩
def mX7_firstBest : MD := (RX7, yX7_firstBest, cX7_firstBest, 4, some .int)
theorem okX7_firstBest : MOK mX7_firstBest 2 := ⟨lwg_mem 763 (by decide +kernel) rfl, lwg_mem 61 (by decide +kernel) rfl, ⟨rfl, plainFor_of_name (by decide +kernel)⟩, by decide +kernel, by decide⟩
theorem viX7_firstBest : Cond.instanceMethod mX7_firstBest.2.1 ∈ lwg ∧ Cond.selects mX7_firstBest.2.1.cls mX7_firstBest.2.1 mX7_firstBest.2.1 ∈ lwg := ⟨lwg_mem 762 (by decide +kernel) rfl, lwg_mem 18 (by decide +kernel) rfl⟩
def mX12_round : MD := (RX12, yX12_round, cX12_round, 3, some .int)
theorem okX12_round : MOK mX12_round 2 := ⟨lwg_mem 767 (by decide +kernel) rfl, lwg_mem 56 (by decide +kernel) rfl, ⟨rfl, plainFor_of_name (by decide +kernel)⟩, by decide +kernel, by decide⟩
theorem viX12_round : Cond.instanceMethod mX12_round.2.1 ∈ lwg ∧ Cond.selects mX12_round.2.1.cls mX12_round.2.1 mX12_round.2.1 ∈ lwg := ⟨lwg_mem 765 (by decide +kernel) rfl, lwg_mem 766 (by decide +kernel) rfl⟩
def mX9_search : MD := (RX9, yX9_search, cX9_search, 5, none)
theorem okX9_search : MOK mX9_search 2 := ⟨lwg_mem 771 (by decide +kernel) rfl, lwg_mem 62 (by decide +kernel) rfl, ⟨rfl, plainFor_of_name (by decide +kernel)⟩, by decide +kernel, by decide⟩
theorem viX9_search : Cond.instanceMethod mX9_search.2.1 ∈ lwg ∧ Cond.selects mX9_search.2.1.cls mX9_search.2.1 mX9_search.2.1 ∈ lwg := ⟨lwg_mem 769 (by decide +kernel) rfl, lwg_mem 770 (by decide +kernel) rfl⟩
def mX9_extend : MD := (RX9, yX9_extend, cX9_extend, 10, none)
theorem okX9_extend : MOK mX9_extend 6 := ⟨lwg_mem 777 (by decide +kernel) rfl, lwg_mem 62 (by decide +kernel) rfl, ⟨rfl, plainFor_of_name (by decide +kernel)⟩, by decide +kernel, by decide⟩
theorem viX9_extend : Cond.instanceMethod mX9_extend.2.1 ∈ lwg ∧ Cond.selects mX9_extend.2.1.cls mX9_extend.2.1 mX9_extend.2.1 ∈ lwg := ⟨lwg_mem 776 (by decide +kernel) rfl, lwg_mem 19 (by decide +kernel) rfl⟩
def mX12_colic : MD := (RX12, yX12_colic, cX12_colic, 6, some .int)
theorem okX12_colic : MOK mX12_colic 2 := ⟨lwg_mem 782 (by decide +kernel) rfl, lwg_mem 56 (by decide +kernel) rfl, ⟨rfl, plainFor_of_name (by decide +kernel)⟩, by decide +kernel, by decide⟩
theorem viX12_colic : Cond.instanceMethod mX12_colic.2.1 ∈ lwg ∧ Cond.selects mX12_colic.2.1.cls mX12_colic.2.1 mX12_colic.2.1 ∈ lwg := ⟨lwg_mem 780 (by decide +kernel) rfl, lwg_mem 781 (by decide +kernel) rfl⟩
def mX12_owed : MD := (RX12, yX12_owed, cX12_owed, 3, some .int)
theorem okX12_owed : MOK mX12_owed 2 := ⟨lwg_mem 788 (by decide +kernel) rfl, lwg_mem 56 (by decide +kernel) rfl, ⟨rfl, plainFor_of_name (by decide +kernel)⟩, by decide +kernel, by decide⟩
theorem viX12_owed : Cond.instanceMethod mX12_owed.2.1 ∈ lwg ∧ Cond.selects mX12_owed.2.1.cls mX12_owed.2.1 mX12_owed.2.1 ∈ lwg := ⟨lwg_mem 786 (by decide +kernel) rfl, lwg_mem 787 (by decide +kernel) rfl⟩
def mX11_add : MD := (RX11, yX11_add, cX11_add, 3, none)
theorem okX11_add : MOK mX11_add 2 := ⟨lwg_mem 792 (by decide +kernel) rfl, lwg_mem 64 (by decide +kernel) rfl, ⟨rfl, plainFor_of_name (by decide +kernel)⟩, by decide +kernel, by decide⟩
theorem viX11_add : Cond.instanceMethod mX11_add.2.1 ∈ lwg ∧ Cond.selects mX11_add.2.1.cls mX11_add.2.1 mX11_add.2.1 ∈ lwg := ⟨lwg_mem 790 (by decide +kernel) rfl, lwg_mem 791 (by decide +kernel) rfl⟩
def mX12_couldBe : MD := (RX12, yX12_couldBe, cX12_couldBe, 1, some .int)
theorem okX12_couldBe : MOK mX12_couldBe 0 := ⟨lwg_mem 796 (by decide +kernel) rfl, lwg_mem 56 (by decide +kernel) rfl, ⟨rfl, plainFor_of_name (by decide +kernel)⟩, by decide +kernel, by decide⟩
theorem viX12_couldBe : Cond.instanceMethod mX12_couldBe.2.1 ∈ lwg ∧ Cond.selects mX12_couldBe.2.1.cls mX12_couldBe.2.1 mX12_couldBe.2.1 ∈ lwg := ⟨lwg_mem 794 (by decide +kernel) rfl, lwg_mem 795 (by decide +kernel) rfl⟩
def mX11_fitting : MD := (RX11, yX11_fitting, cX11_fitting, 4, some .int)
theorem okX11_fitting : MOK mX11_fitting 1 := ⟨lwg_mem 800 (by decide +kernel) rfl, lwg_mem 64 (by decide +kernel) rfl, ⟨rfl, plainFor_of_name (by decide +kernel)⟩, by decide +kernel, by decide⟩
theorem viX11_fitting : Cond.instanceMethod mX11_fitting.2.1 ∈ lwg ∧ Cond.selects mX11_fitting.2.1.cls mX11_fitting.2.1 mX11_fitting.2.1 ∈ lwg := ⟨lwg_mem 798 (by decide +kernel) rfl, lwg_mem 799 (by decide +kernel) rfl⟩
def mX11_allFit : MD := (RX11, yX11_allFit, cX11_allFit, 3, some .boolean)
theorem okX11_allFit : MOK mX11_allFit 1 := ⟨lwg_mem 804 (by decide +kernel) rfl, lwg_mem 64 (by decide +kernel) rfl, ⟨rfl, plainFor_of_name (by decide +kernel)⟩, by decide +kernel, by decide⟩
theorem viX11_allFit : Cond.instanceMethod mX11_allFit.2.1 ∈ lwg ∧ Cond.selects mX11_allFit.2.1.cls mX11_allFit.2.1 mX11_allFit.2.1 ∈ lwg := ⟨lwg_mem 803 (by decide +kernel) rfl, lwg_mem 20 (by decide +kernel) rfl⟩
def mX12_ask : MD := (RX12, yX12_ask, cX12_ask, 1, some .int)
theorem okX12_ask : MOK mX12_ask 0 := ⟨lwg_mem 808 (by decide +kernel) rfl, lwg_mem 56 (by decide +kernel) rfl, ⟨rfl, plainFor_of_name (by decide +kernel)⟩, by decide +kernel, by decide⟩
theorem viX12_ask : Cond.instanceMethod mX12_ask.2.1 ∈ lwg ∧ Cond.selects mX12_ask.2.1.cls mX12_ask.2.1 mX12_ask.2.1 ∈ lwg := ⟨lwg_mem 806 (by decide +kernel) rfl, lwg_mem 807 (by decide +kernel) rfl⟩
def mX11_bestQuestion : MD := (RX11, yX11_bestQuestion, cX11_bestQuestion, 9, some .int)
theorem okX11_bestQuestion : MOK mX11_bestQuestion 1 := ⟨lwg_mem 812 (by decide +kernel) rfl, lwg_mem 64 (by decide +kernel) rfl, ⟨rfl, plainFor_of_name (by decide +kernel)⟩, by decide +kernel, by decide⟩
theorem viX11_bestQuestion : Cond.instanceMethod mX11_bestQuestion.2.1 ∈ lwg ∧ Cond.selects mX11_bestQuestion.2.1.cls mX11_bestQuestion.2.1 mX11_bestQuestion.2.1 ∈ lwg := ⟨lwg_mem 810 (by decide +kernel) rfl, lwg_mem 811 (by decide +kernel) rfl⟩
def mJ6_bitCount_0f7a4 : MD := (RJ6, yJ6_bitCount_0f7a4, cJ6_bitCount_0f7a4, 1, some .int)
theorem okJ6_bitCount_0f7a4 : MOK mJ6_bitCount_0f7a4 1 := ⟨lwg_mem 816 (by decide +kernel) rfl, lwg_mem 71 (by decide +kernel) rfl, ⟨rfl, plainFor_of_name (by decide +kernel)⟩, by decide +kernel, by decide⟩
theorem vsJ6_bitCount_0f7a4 : Cond.static mJ6_bitCount_0f7a4.2.1 ∈ lwg := lwg_mem 815 (by decide +kernel) rfl
def mX11_owingAtLeast : MD := (RX11, yX11_owingAtLeast, cX11_owingAtLeast, 5, some .int)
theorem okX11_owingAtLeast : MOK mX11_owingAtLeast 3 := ⟨lwg_mem 822 (by decide +kernel) rfl, lwg_mem 64 (by decide +kernel) rfl, ⟨rfl, plainFor_of_name (by decide +kernel)⟩, by decide +kernel, by decide⟩
theorem vsX11_owingAtLeast : Cond.static mX11_owingAtLeast.2.1 ∈ lwg := lwg_mem 821 (by decide +kernel) rfl
def mX12_write : MD := (RX12, yX12_write, cX12_write, 3, some .int)
theorem okX12_write : MOK mX12_write 2 := ⟨lwg_mem 827 (by decide +kernel) rfl, lwg_mem 56 (by decide +kernel) rfl, ⟨rfl, plainFor_of_name (by decide +kernel)⟩, by decide +kernel, by decide⟩
theorem viX12_write : Cond.instanceMethod mX12_write.2.1 ∈ lwg ∧ Cond.selects mX12_write.2.1.cls mX12_write.2.1 mX12_write.2.1 ∈ lwg := ⟨lwg_mem 825 (by decide +kernel) rfl, lwg_mem 826 (by decide +kernel) rfl⟩
def mX0_add : MD := (RX0, yX0_add, cX0_add, 3, none)
theorem okX0_add : MOK mX0_add 2 := ⟨lwg_mem 831 (by decide +kernel) rfl, lwg_mem 65 (by decide +kernel) rfl, ⟨rfl, plainFor_of_name (by decide +kernel)⟩, by decide +kernel, by decide⟩
theorem viX0_add : Cond.instanceMethod mX0_add.2.1 ∈ lwg ∧ Cond.selects mX0_add.2.1.cls mX0_add.2.1 mX0_add.2.1 ∈ lwg := ⟨lwg_mem 829 (by decide +kernel) rfl, lwg_mem 830 (by decide +kernel) rfl⟩
def mX12_judge : MD := (RX12, yX12_judge, cX12_judge, 1, some .int)
theorem okX12_judge : MOK mX12_judge 0 := ⟨lwg_mem 835 (by decide +kernel) rfl, lwg_mem 56 (by decide +kernel) rfl, ⟨rfl, plainFor_of_name (by decide +kernel)⟩, by decide +kernel, by decide⟩
theorem viX12_judge : Cond.instanceMethod mX12_judge.2.1 ∈ lwg ∧ Cond.selects mX12_judge.2.1.cls mX12_judge.2.1 mX12_judge.2.1 ∈ lwg := ⟨lwg_mem 833 (by decide +kernel) rfl, lwg_mem 834 (by decide +kernel) rfl⟩
def mX0_firstWrong : MD := (RX0, yX0_firstWrong, cX0_firstWrong, 3, some .int)
theorem okX0_firstWrong : MOK mX0_firstWrong 1 := ⟨lwg_mem 839 (by decide +kernel) rfl, lwg_mem 65 (by decide +kernel) rfl, ⟨rfl, plainFor_of_name (by decide +kernel)⟩, by decide +kernel, by decide⟩
theorem viX0_firstWrong : Cond.instanceMethod mX0_firstWrong.2.1 ∈ lwg ∧ Cond.selects mX0_firstWrong.2.1.cls mX0_firstWrong.2.1 mX0_firstWrong.2.1 ∈ lwg := ⟨lwg_mem 837 (by decide +kernel) rfl, lwg_mem 838 (by decide +kernel) rfl⟩
def mX12_tear : MD := (RX12, yX12_tear, cX12_tear, 2, some .int)
theorem okX12_tear : MOK mX12_tear 0 := ⟨lwg_mem 843 (by decide +kernel) rfl, lwg_mem 56 (by decide +kernel) rfl, ⟨rfl, plainFor_of_name (by decide +kernel)⟩, by decide +kernel, by decide⟩
theorem viX12_tear : Cond.instanceMethod mX12_tear.2.1 ∈ lwg ∧ Cond.selects mX12_tear.2.1.cls mX12_tear.2.1 mX12_tear.2.1 ∈ lwg := ⟨lwg_mem 841 (by decide +kernel) rfl, lwg_mem 842 (by decide +kernel) rfl⟩
def mX12_seed : MD := (RX12, yX12_seed, cX12_seed, 3, some .int)
theorem okX12_seed : MOK mX12_seed 1 := ⟨lwg_mem 847 (by decide +kernel) rfl, lwg_mem 56 (by decide +kernel) rfl, ⟨rfl, plainFor_of_name (by decide +kernel)⟩, by decide +kernel, by decide⟩
theorem viX12_seed : Cond.instanceMethod mX12_seed.2.1 ∈ lwg ∧ Cond.selects mX12_seed.2.1.cls mX12_seed.2.1 mX12_seed.2.1 ∈ lwg := ⟨lwg_mem 845 (by decide +kernel) rfl, lwg_mem 846 (by decide +kernel) rfl⟩
def mX12_keep : MD := (RX12, yX12_keep, cX12_keep, 3, some .int)
theorem okX12_keep : MOK mX12_keep 1 := ⟨lwg_mem 851 (by decide +kernel) rfl, lwg_mem 56 (by decide +kernel) rfl, ⟨rfl, plainFor_of_name (by decide +kernel)⟩, by decide +kernel, by decide⟩
theorem viX12_keep : Cond.instanceMethod mX12_keep.2.1 ∈ lwg ∧ Cond.selects mX12_keep.2.1.cls mX12_keep.2.1 mX12_keep.2.1 ∈ lwg := ⟨lwg_mem 849 (by decide +kernel) rfl, lwg_mem 850 (by decide +kernel) rfl⟩
def mX12_goBack : MD := (RX12, yX12_goBack, cX12_goBack, 3, some .int)
theorem okX12_goBack : MOK mX12_goBack 1 := ⟨lwg_mem 856 (by decide +kernel) rfl, lwg_mem 56 (by decide +kernel) rfl, ⟨rfl, plainFor_of_name (by decide +kernel)⟩, by decide +kernel, by decide⟩
theorem viX12_goBack : Cond.instanceMethod mX12_goBack.2.1 ∈ lwg ∧ Cond.selects mX12_goBack.2.1.cls mX12_goBack.2.1 mX12_goBack.2.1 ∈ lwg := ⟨lwg_mem 854 (by decide +kernel) rfl, lwg_mem 855 (by decide +kernel) rfl⟩
def mX13_init : MD := (RX13, yX13_init, cX13_init, 1, none)
theorem okX13_init : MOK mX13_init 0 := ⟨lwg_mem 861 (by decide +kernel) rfl, lwg_mem 67 (by decide +kernel) rfl, ⟨rfl, plainFor_of_name (by decide +kernel)⟩, by decide +kernel, by decide⟩
theorem viX13_init : Cond.instanceMethod mX13_init.2.1 ∈ lwg := lwg_mem 860 (by decide +kernel) rfl
def mX13_feed : MD := (RX13, yX13_feed, cX13_feed, 2, some .int)
theorem okX13_feed : MOK mX13_feed 1 := ⟨lwg_mem 982 (by decide +kernel) rfl, lwg_mem 67 (by decide +kernel) rfl, ⟨rfl, plainFor_of_name (by decide +kernel)⟩, by decide +kernel, by decide⟩
theorem viX13_feed : Cond.instanceMethod mX13_feed.2.1 ∈ lwg ∧ Cond.selects mX13_feed.2.1.cls mX13_feed.2.1 mX13_feed.2.1 ∈ lwg := ⟨lwg_mem 980 (by decide +kernel) rfl, lwg_mem 981 (by decide +kernel) rfl⟩
def mX13_row : MD := (RX13, yX13_row, cX13_row, 2, some .int)
theorem okX13_row : MOK mX13_row 0 := ⟨lwg_mem 988 (by decide +kernel) rfl, lwg_mem 67 (by decide +kernel) rfl, ⟨rfl, plainFor_of_name (by decide +kernel)⟩, by decide +kernel, by decide⟩
theorem viX13_row : Cond.instanceMethod mX13_row.2.1 ∈ lwg ∧ Cond.selects mX13_row.2.1.cls mX13_row.2.1 mX13_row.2.1 ∈ lwg := ⟨lwg_mem 986 (by decide +kernel) rfl, lwg_mem 987 (by decide +kernel) rfl⟩
def mX13_reads : MD := (RX13, yX13_reads, cX13_reads, 2, none)
theorem okX13_reads : MOK mX13_reads 0 := ⟨lwg_mem 992 (by decide +kernel) rfl, lwg_mem 67 (by decide +kernel) rfl, ⟨rfl, plainFor_of_name (by decide +kernel)⟩, by decide +kernel, by decide⟩
theorem viX13_reads : Cond.instanceMethod mX13_reads.2.1 ∈ lwg ∧ Cond.selects mX13_reads.2.1.cls mX13_reads.2.1 mX13_reads.2.1 ∈ lwg := ⟨lwg_mem 991 (by decide +kernel) rfl, lwg_mem 21 (by decide +kernel) rfl⟩
def mX13_skips : MD := (RX13, yX13_skips, cX13_skips, 1, none)
theorem okX13_skips : MOK mX13_skips 0 := ⟨lwg_mem 996 (by decide +kernel) rfl, lwg_mem 67 (by decide +kernel) rfl, ⟨rfl, plainFor_of_name (by decide +kernel)⟩, by decide +kernel, by decide⟩
theorem viX13_skips : Cond.instanceMethod mX13_skips.2.1 ∈ lwg ∧ Cond.selects mX13_skips.2.1.cls mX13_skips.2.1 mX13_skips.2.1 ∈ lwg := ⟨lwg_mem 995 (by decide +kernel) rfl, lwg_mem 22 (by decide +kernel) rfl⟩
def mX13_clause : MD := (RX13, yX13_clause, cX13_clause, 3, none)
theorem okX13_clause : MOK mX13_clause 1 := ⟨lwg_mem 1000 (by decide +kernel) rfl, lwg_mem 67 (by decide +kernel) rfl, ⟨rfl, plainFor_of_name (by decide +kernel)⟩, by decide +kernel, by decide⟩
theorem viX13_clause : Cond.instanceMethod mX13_clause.2.1 ∈ lwg ∧ Cond.selects mX13_clause.2.1.cls mX13_clause.2.1 mX13_clause.2.1 ∈ lwg := ⟨lwg_mem 999 (by decide +kernel) rfl, lwg_mem 23 (by decide +kernel) rfl⟩
def mX13_faults : MD := (RX13, yX13_faults, cX13_faults, 3, none)
theorem okX13_faults : MOK mX13_faults 2 := ⟨lwg_mem 1004 (by decide +kernel) rfl, lwg_mem 67 (by decide +kernel) rfl, ⟨rfl, plainFor_of_name (by decide +kernel)⟩, by decide +kernel, by decide⟩
theorem viX13_faults : Cond.instanceMethod mX13_faults.2.1 ∈ lwg ∧ Cond.selects mX13_faults.2.1.cls mX13_faults.2.1 mX13_faults.2.1 ∈ lwg := ⟨lwg_mem 1003 (by decide +kernel) rfl, lwg_mem 24 (by decide +kernel) rfl⟩
def mX13_number : MD := (RX13, yX13_number, cX13_number, 5, some .int)
theorem okX13_number : MOK mX13_number 2 := ⟨lwg_mem 1008 (by decide +kernel) rfl, lwg_mem 67 (by decide +kernel) rfl, ⟨rfl, plainFor_of_name (by decide +kernel)⟩, by decide +kernel, by decide⟩
theorem viX13_number : Cond.instanceMethod mX13_number.2.1 ∈ lwg ∧ Cond.selects mX13_number.2.1.cls mX13_number.2.1 mX13_number.2.1 ∈ lwg := ⟨lwg_mem 1007 (by decide +kernel) rfl, lwg_mem 25 (by decide +kernel) rfl⟩
def mX13_isFigure : MD := (RX13, yX13_isFigure, cX13_isFigure, 1, some .boolean)
theorem okX13_isFigure : MOK mX13_isFigure 0 := ⟨lwg_mem 1012 (by decide +kernel) rfl, lwg_mem 67 (by decide +kernel) rfl, ⟨rfl, plainFor_of_name (by decide +kernel)⟩, by decide +kernel, by decide⟩
theorem viX13_isFigure : Cond.instanceMethod mX13_isFigure.2.1 ∈ lwg ∧ Cond.selects mX13_isFigure.2.1.cls mX13_isFigure.2.1 mX13_isFigure.2.1 ∈ lwg := ⟨lwg_mem 1011 (by decide +kernel) rfl, lwg_mem 26 (by decide +kernel) rfl⟩
def mX13_fault : MD := (RX13, yX13_fault, cX13_fault, 1, some .int)
theorem okX13_fault : MOK mX13_fault 0 := ⟨lwg_mem 1016 (by decide +kernel) rfl, lwg_mem 67 (by decide +kernel) rfl, ⟨rfl, plainFor_of_name (by decide +kernel)⟩, by decide +kernel, by decide⟩
theorem viX13_fault : Cond.instanceMethod mX13_fault.2.1 ∈ lwg ∧ Cond.selects mX13_fault.2.1.cls mX13_fault.2.1 mX13_fault.2.1 ∈ lwg := ⟨lwg_mem 1014 (by decide +kernel) rfl, lwg_mem 1015 (by decide +kernel) rfl⟩
def mX13_told : MD := (RX13, yX13_told, cX13_told, 2, some .int)
theorem okX13_told : MOK mX13_told 1 := ⟨lwg_mem 1020 (by decide +kernel) rfl, lwg_mem 67 (by decide +kernel) rfl, ⟨rfl, plainFor_of_name (by decide +kernel)⟩, by decide +kernel, by decide⟩
theorem viX13_told : Cond.instanceMethod mX13_told.2.1 ∈ lwg ∧ Cond.selects mX13_told.2.1.cls mX13_told.2.1 mX13_told.2.1 ∈ lwg := ⟨lwg_mem 1018 (by decide +kernel) rfl, lwg_mem 1019 (by decide +kernel) rfl⟩
def mX13_sets : MD := (RX13, yX13_sets, cX13_sets, 5, some .int)
theorem okX13_sets : MOK mX13_sets 1 := ⟨lwg_mem 1024 (by decide +kernel) rfl, lwg_mem 67 (by decide +kernel) rfl, ⟨rfl, plainFor_of_name (by decide +kernel)⟩, by decide +kernel, by decide⟩
theorem viX13_sets : Cond.instanceMethod mX13_sets.2.1 ∈ lwg ∧ Cond.selects mX13_sets.2.1.cls mX13_sets.2.1 mX13_sets.2.1 ∈ lwg := ⟨lwg_mem 1023 (by decide +kernel) rfl, lwg_mem 27 (by decide +kernel) rfl⟩
def mX13_owedByAll : MD := (RX13, yX13_owedByAll, cX13_owedByAll, 3, some .int)
theorem okX13_owedByAll : MOK mX13_owedByAll 0 := ⟨lwg_mem 1028 (by decide +kernel) rfl, lwg_mem 67 (by decide +kernel) rfl, ⟨rfl, plainFor_of_name (by decide +kernel)⟩, by decide +kernel, by decide⟩
theorem viX13_owedByAll : Cond.instanceMethod mX13_owedByAll.2.1 ∈ lwg ∧ Cond.selects mX13_owedByAll.2.1.cls mX13_owedByAll.2.1 mX13_owedByAll.2.1 ∈ lwg := ⟨lwg_mem 1027 (by decide +kernel) rfl, lwg_mem 28 (by decide +kernel) rfl⟩
def mX13_last : MD := (RX13, yX13_last, cX13_last, 4, some .int)
theorem okX13_last : MOK mX13_last 0 := ⟨lwg_mem 1032 (by decide +kernel) rfl, lwg_mem 67 (by decide +kernel) rfl, ⟨rfl, plainFor_of_name (by decide +kernel)⟩, by decide +kernel, by decide⟩
theorem viX13_last : Cond.instanceMethod mX13_last.2.1 ∈ lwg ∧ Cond.selects mX13_last.2.1.cls mX13_last.2.1 mX13_last.2.1 ∈ lwg := ⟨lwg_mem 1031 (by decide +kernel) rfl, lwg_mem 29 (by decide +kernel) rfl⟩
def mX13_max : MD := (RX13, yX13_max, cX13_max, 3, some .int)
theorem okX13_max : MOK mX13_max 2 := ⟨lwg_mem 1036 (by decide +kernel) rfl, lwg_mem 67 (by decide +kernel) rfl, ⟨rfl, plainFor_of_name (by decide +kernel)⟩, by decide +kernel, by decide⟩
theorem viX13_max : Cond.instanceMethod mX13_max.2.1 ∈ lwg ∧ Cond.selects mX13_max.2.1.cls mX13_max.2.1 mX13_max.2.1 ∈ lwg := ⟨lwg_mem 1035 (by decide +kernel) rfl, lwg_mem 30 (by decide +kernel) rfl⟩
def mX13_hardest : MD := (RX13, yX13_hardest, cX13_hardest, 4, some .int)
theorem okX13_hardest : MOK mX13_hardest 0 := ⟨lwg_mem 1040 (by decide +kernel) rfl, lwg_mem 67 (by decide +kernel) rfl, ⟨rfl, plainFor_of_name (by decide +kernel)⟩, by decide +kernel, by decide⟩
theorem viX13_hardest : Cond.instanceMethod mX13_hardest.2.1 ∈ lwg ∧ Cond.selects mX13_hardest.2.1.cls mX13_hardest.2.1 mX13_hardest.2.1 ∈ lwg := ⟨lwg_mem 1039 (by decide +kernel) rfl, lwg_mem 31 (by decide +kernel) rfl⟩
def mX13_needs : MD := (RX13, yX13_needs, cX13_needs, 3, some .int)
theorem okX13_needs : MOK mX13_needs 1 := ⟨lwg_mem 1044 (by decide +kernel) rfl, lwg_mem 67 (by decide +kernel) rfl, ⟨rfl, plainFor_of_name (by decide +kernel)⟩, by decide +kernel, by decide⟩
theorem viX13_needs : Cond.instanceMethod mX13_needs.2.1 ∈ lwg ∧ Cond.selects mX13_needs.2.1.cls mX13_needs.2.1 mX13_needs.2.1 ∈ lwg := ⟨lwg_mem 1043 (by decide +kernel) rfl, lwg_mem 32 (by decide +kernel) rfl⟩
def mX13_spread : MD := (RX13, yX13_spread, cX13_spread, 4, some .int)
theorem okX13_spread : MOK mX13_spread 0 := ⟨lwg_mem 1048 (by decide +kernel) rfl, lwg_mem 67 (by decide +kernel) rfl, ⟨rfl, plainFor_of_name (by decide +kernel)⟩, by decide +kernel, by decide⟩
theorem viX13_spread : Cond.instanceMethod mX13_spread.2.1 ∈ lwg ∧ Cond.selects mX13_spread.2.1.cls mX13_spread.2.1 mX13_spread.2.1 ∈ lwg := ⟨lwg_mem 1047 (by decide +kernel) rfl, lwg_mem 33 (by decide +kernel) rfl⟩
def mX13_apart : MD := (RX13, yX13_apart, cX13_apart, 3, some .int)
theorem okX13_apart : MOK mX13_apart 2 := ⟨lwg_mem 1052 (by decide +kernel) rfl, lwg_mem 67 (by decide +kernel) rfl, ⟨rfl, plainFor_of_name (by decide +kernel)⟩, by decide +kernel, by decide⟩
theorem viX13_apart : Cond.instanceMethod mX13_apart.2.1 ∈ lwg ∧ Cond.selects mX13_apart.2.1.cls mX13_apart.2.1 mX13_apart.2.1 ∈ lwg := ⟨lwg_mem 1051 (by decide +kernel) rfl, lwg_mem 34 (by decide +kernel) rfl⟩
def mX13_plans : MD := (RX13, yX13_plans, cX13_plans, 6, none)
theorem okX13_plans : MOK mX13_plans 1 := ⟨lwg_mem 1056 (by decide +kernel) rfl, lwg_mem 67 (by decide +kernel) rfl, ⟨rfl, plainFor_of_name (by decide +kernel)⟩, by decide +kernel, by decide⟩
theorem viX13_plans : Cond.instanceMethod mX13_plans.2.1 ∈ lwg ∧ Cond.selects mX13_plans.2.1.cls mX13_plans.2.1 mX13_plans.2.1 ∈ lwg := ⟨lwg_mem 1055 (by decide +kernel) rfl, lwg_mem 35 (by decide +kernel) rfl⟩
def mX13_could : MD := (RX13, yX13_could, cX13_could, 3, some .boolean)
theorem okX13_could : MOK mX13_could 2 := ⟨lwg_mem 1060 (by decide +kernel) rfl, lwg_mem 67 (by decide +kernel) rfl, ⟨rfl, plainFor_of_name (by decide +kernel)⟩, by decide +kernel, by decide⟩
theorem viX13_could : Cond.instanceMethod mX13_could.2.1 ∈ lwg ∧ Cond.selects mX13_could.2.1.cls mX13_could.2.1 mX13_could.2.1 ∈ lwg := ⟨lwg_mem 1059 (by decide +kernel) rfl, lwg_mem 36 (by decide +kernel) rfl⟩
def mX13_steps : MD := (RX13, yX13_steps, cX13_steps, 3, some .int)
theorem okX13_steps : MOK mX13_steps 2 := ⟨lwg_mem 1064 (by decide +kernel) rfl, lwg_mem 67 (by decide +kernel) rfl, ⟨rfl, plainFor_of_name (by decide +kernel)⟩, by decide +kernel, by decide⟩
theorem viX13_steps : Cond.instanceMethod mX13_steps.2.1 ∈ lwg ∧ Cond.selects mX13_steps.2.1.cls mX13_steps.2.1 mX13_steps.2.1 ∈ lwg := ⟨lwg_mem 1062 (by decide +kernel) rfl, lwg_mem 1063 (by decide +kernel) rfl⟩
def mX13_isSinger : MD := (RX13, yX13_isSinger, cX13_isSinger, 2, some .boolean)
theorem okX13_isSinger : MOK mX13_isSinger 1 := ⟨lwg_mem 1068 (by decide +kernel) rfl, lwg_mem 67 (by decide +kernel) rfl, ⟨rfl, plainFor_of_name (by decide +kernel)⟩, by decide +kernel, by decide⟩
theorem viX13_isSinger : Cond.instanceMethod mX13_isSinger.2.1 ∈ lwg ∧ Cond.selects mX13_isSinger.2.1.cls mX13_isSinger.2.1 mX13_isSinger.2.1 ∈ lwg := ⟨lwg_mem 1067 (by decide +kernel) rfl, lwg_mem 37 (by decide +kernel) rfl⟩
def mX13_isChild : MD := (RX13, yX13_isChild, cX13_isChild, 2, some .boolean)
theorem okX13_isChild : MOK mX13_isChild 1 := ⟨lwg_mem 1072 (by decide +kernel) rfl, lwg_mem 67 (by decide +kernel) rfl, ⟨rfl, plainFor_of_name (by decide +kernel)⟩, by decide +kernel, by decide⟩
theorem viX13_isChild : Cond.instanceMethod mX13_isChild.2.1 ∈ lwg ∧ Cond.selects mX13_isChild.2.1.cls mX13_isChild.2.1 mX13_isChild.2.1 ∈ lwg := ⟨lwg_mem 1071 (by decide +kernel) rfl, lwg_mem 38 (by decide +kernel) rfl⟩
def mX13_worth : MD := (RX13, yX13_worth, cX13_worth, 4, some .int)
theorem okX13_worth : MOK mX13_worth 3 := ⟨lwg_mem 1077 (by decide +kernel) rfl, lwg_mem 67 (by decide +kernel) rfl, ⟨rfl, plainFor_of_name (by decide +kernel)⟩, by decide +kernel, by decide⟩
theorem viX13_worth : Cond.instanceMethod mX13_worth.2.1 ∈ lwg ∧ Cond.selects mX13_worth.2.1.cls mX13_worth.2.1 mX13_worth.2.1 ∈ lwg := ⟨lwg_mem 1076 (by decide +kernel) rfl, lwg_mem 39 (by decide +kernel) rfl⟩
def mX13_payment : MD := (RX13, yX13_payment, cX13_payment, 3, some .int)
theorem okX13_payment : MOK mX13_payment 2 := ⟨lwg_mem 1081 (by decide +kernel) rfl, lwg_mem 67 (by decide +kernel) rfl, ⟨rfl, plainFor_of_name (by decide +kernel)⟩, by decide +kernel, by decide⟩
theorem viX13_payment : Cond.instanceMethod mX13_payment.2.1 ∈ lwg ∧ Cond.selects mX13_payment.2.1.cls mX13_payment.2.1 mX13_payment.2.1 ∈ lwg := ⟨lwg_mem 1080 (by decide +kernel) rfl, lwg_mem 40 (by decide +kernel) rfl⟩
def mX13_pay : MD := (RX13, yX13_pay, cX13_pay, 3, some .int)
theorem okX13_pay : MOK mX13_pay 2 := ⟨lwg_mem 1085 (by decide +kernel) rfl, lwg_mem 67 (by decide +kernel) rfl, ⟨rfl, plainFor_of_name (by decide +kernel)⟩, by decide +kernel, by decide⟩
theorem viX13_pay : Cond.instanceMethod mX13_pay.2.1 ∈ lwg ∧ Cond.selects mX13_pay.2.1.cls mX13_pay.2.1 mX13_pay.2.1 ∈ lwg := ⟨lwg_mem 1084 (by decide +kernel) rfl, lwg_mem 41 (by decide +kernel) rfl⟩
def mX13_min : MD := (RX13, yX13_min, cX13_min, 3, some .int)
theorem okX13_min : MOK mX13_min 2 := ⟨lwg_mem 1089 (by decide +kernel) rfl, lwg_mem 67 (by decide +kernel) rfl, ⟨rfl, plainFor_of_name (by decide +kernel)⟩, by decide +kernel, by decide⟩
theorem viX13_min : Cond.instanceMethod mX13_min.2.1 ∈ lwg ∧ Cond.selects mX13_min.2.1.cls mX13_min.2.1 mX13_min.2.1 ∈ lwg := ⟨lwg_mem 1088 (by decide +kernel) rfl, lwg_mem 42 (by decide +kernel) rfl⟩
def mX13_willDefault : MD := (RX13, yX13_willDefault, cX13_willDefault, 5, some .int)
theorem okX13_willDefault : MOK mX13_willDefault 0 := ⟨lwg_mem 1093 (by decide +kernel) rfl, lwg_mem 67 (by decide +kernel) rfl, ⟨rfl, plainFor_of_name (by decide +kernel)⟩, by decide +kernel, by decide⟩
theorem viX13_willDefault : Cond.instanceMethod mX13_willDefault.2.1 ∈ lwg ∧ Cond.selects mX13_willDefault.2.1.cls mX13_willDefault.2.1 mX13_willDefault.2.1 ∈ lwg := ⟨lwg_mem 1092 (by decide +kernel) rfl, lwg_mem 43 (by decide +kernel) rfl⟩
def mX13_never : MD := (RX13, yX13_never, cX13_never, 5, some .int)
theorem okX13_never : MOK mX13_never 1 := ⟨lwg_mem 1097 (by decide +kernel) rfl, lwg_mem 67 (by decide +kernel) rfl, ⟨rfl, plainFor_of_name (by decide +kernel)⟩, by decide +kernel, by decide⟩
theorem viX13_never : Cond.instanceMethod mX13_never.2.1 ∈ lwg ∧ Cond.selects mX13_never.2.1.cls mX13_never.2.1 mX13_never.2.1 ∈ lwg := ⟨lwg_mem 1096 (by decide +kernel) rfl, lwg_mem 44 (by decide +kernel) rfl⟩
def mX13_singer : MD := (RX13, yX13_singer, cX13_singer, 3, some .int)
theorem okX13_singer : MOK mX13_singer 2 := ⟨lwg_mem 1101 (by decide +kernel) rfl, lwg_mem 67 (by decide +kernel) rfl, ⟨rfl, plainFor_of_name (by decide +kernel)⟩, by decide +kernel, by decide⟩
theorem viX13_singer : Cond.instanceMethod mX13_singer.2.1 ∈ lwg ∧ Cond.selects mX13_singer.2.1.cls mX13_singer.2.1 mX13_singer.2.1 ∈ lwg := ⟨lwg_mem 1099 (by decide +kernel) rfl, lwg_mem 1100 (by decide +kernel) rfl⟩
def mX13_child : MD := (RX13, yX13_child, cX13_child, 3, some .int)
theorem okX13_child : MOK mX13_child 2 := ⟨lwg_mem 1105 (by decide +kernel) rfl, lwg_mem 67 (by decide +kernel) rfl, ⟨rfl, plainFor_of_name (by decide +kernel)⟩, by decide +kernel, by decide⟩
theorem viX13_child : Cond.instanceMethod mX13_child.2.1 ∈ lwg ∧ Cond.selects mX13_child.2.1.cls mX13_child.2.1 mX13_child.2.1 ∈ lwg := ⟨lwg_mem 1103 (by decide +kernel) rfl, lwg_mem 1104 (by decide +kernel) rfl⟩
def mX13_go : MD := (RX13, yX13_go, cX13_go, 4, some .int)
theorem okX13_go : MOK mX13_go 2 := ⟨lwg_mem 1109 (by decide +kernel) rfl, lwg_mem 67 (by decide +kernel) rfl, ⟨rfl, plainFor_of_name (by decide +kernel)⟩, by decide +kernel, by decide⟩
theorem viX13_go : Cond.instanceMethod mX13_go.2.1 ∈ lwg ∧ Cond.selects mX13_go.2.1.cls mX13_go.2.1 mX13_go.2.1 ∈ lwg := ⟨lwg_mem 1107 (by decide +kernel) rfl, lwg_mem 1108 (by decide +kernel) rfl⟩
def mX13_remembers : MD := (RX13, yX13_remembers, cX13_remembers, 2, none)
theorem okX13_remembers : MOK mX13_remembers 0 := ⟨lwg_mem 1114 (by decide +kernel) rfl, lwg_mem 67 (by decide +kernel) rfl, ⟨rfl, plainFor_of_name (by decide +kernel)⟩, by decide +kernel, by decide⟩
theorem viX13_remembers : Cond.instanceMethod mX13_remembers.2.1 ∈ lwg ∧ Cond.selects mX13_remembers.2.1.cls mX13_remembers.2.1 mX13_remembers.2.1 ∈ lwg := ⟨lwg_mem 1113 (by decide +kernel) rfl, lwg_mem 45 (by decide +kernel) rfl⟩
def mX13_sing : MD := (RX13, yX13_sing, cX13_sing, 3, some .int)
theorem okX13_sing : MOK mX13_sing 2 := ⟨lwg_mem 1118 (by decide +kernel) rfl, lwg_mem 67 (by decide +kernel) rfl, ⟨rfl, plainFor_of_name (by decide +kernel)⟩, by decide +kernel, by decide⟩
theorem viX13_sing : Cond.instanceMethod mX13_sing.2.1 ∈ lwg ∧ Cond.selects mX13_sing.2.1.cls mX13_sing.2.1 mX13_sing.2.1 ∈ lwg := ⟨lwg_mem 1116 (by decide +kernel) rfl, lwg_mem 1117 (by decide +kernel) rfl⟩
def mX13_may : MD := (RX13, yX13_may, cX13_may, 3, some .boolean)
theorem okX13_may : MOK mX13_may 2 := ⟨lwg_mem 1122 (by decide +kernel) rfl, lwg_mem 67 (by decide +kernel) rfl, ⟨rfl, plainFor_of_name (by decide +kernel)⟩, by decide +kernel, by decide⟩
theorem viX13_may : Cond.instanceMethod mX13_may.2.1 ∈ lwg ∧ Cond.selects mX13_may.2.1.cls mX13_may.2.1 mX13_may.2.1 ∈ lwg := ⟨lwg_mem 1121 (by decide +kernel) rfl, lwg_mem 46 (by decide +kernel) rfl⟩
def mX13_sings : MD := (RX13, yX13_sings, cX13_sings, 5, some .int)
theorem okX13_sings : MOK mX13_sings 2 := ⟨lwg_mem 1126 (by decide +kernel) rfl, lwg_mem 67 (by decide +kernel) rfl, ⟨rfl, plainFor_of_name (by decide +kernel)⟩, by decide +kernel, by decide⟩
theorem viX13_sings : Cond.instanceMethod mX13_sings.2.1 ∈ lwg ∧ Cond.selects mX13_sings.2.1.cls mX13_sings.2.1 mX13_sings.2.1 ∈ lwg := ⟨lwg_mem 1125 (by decide +kernel) rfl, lwg_mem 47 (by decide +kernel) rfl⟩
def mX13_carry : MD := (RX13, yX13_carry, cX13_carry, 3, some .int)
theorem okX13_carry : MOK mX13_carry 2 := ⟨lwg_mem 1130 (by decide +kernel) rfl, lwg_mem 67 (by decide +kernel) rfl, ⟨rfl, plainFor_of_name (by decide +kernel)⟩, by decide +kernel, by decide⟩
theorem viX13_carry : Cond.instanceMethod mX13_carry.2.1 ∈ lwg ∧ Cond.selects mX13_carry.2.1.cls mX13_carry.2.1 mX13_carry.2.1 ∈ lwg := ⟨lwg_mem 1128 (by decide +kernel) rfl, lwg_mem 1129 (by decide +kernel) rfl⟩
def mX13_canBeCarried : MD := (RX13, yX13_canBeCarried, cX13_canBeCarried, 4, some .boolean)
theorem okX13_canBeCarried : MOK mX13_canBeCarried 2 := ⟨lwg_mem 1134 (by decide +kernel) rfl, lwg_mem 67 (by decide +kernel) rfl, ⟨rfl, plainFor_of_name (by decide +kernel)⟩, by decide +kernel, by decide⟩
theorem viX13_canBeCarried : Cond.instanceMethod mX13_canBeCarried.2.1 ∈ lwg ∧ Cond.selects mX13_canBeCarried.2.1.cls mX13_canBeCarried.2.1 mX13_canBeCarried.2.1 ∈ lwg := ⟨lwg_mem 1133 (by decide +kernel) rfl, lwg_mem 48 (by decide +kernel) rfl⟩
def mX13_carries : MD := (RX13, yX13_carries, cX13_carries, 3, none)
theorem okX13_carries : MOK mX13_carries 2 := ⟨lwg_mem 1138 (by decide +kernel) rfl, lwg_mem 67 (by decide +kernel) rfl, ⟨rfl, plainFor_of_name (by decide +kernel)⟩, by decide +kernel, by decide⟩
theorem viX13_carries : Cond.instanceMethod mX13_carries.2.1 ∈ lwg ∧ Cond.selects mX13_carries.2.1.cls mX13_carries.2.1 mX13_carries.2.1 ∈ lwg := ⟨lwg_mem 1137 (by decide +kernel) rfl, lwg_mem 49 (by decide +kernel) rfl⟩
def mX13_evening : MD := (RX13, yX13_evening, cX13_evening, 4, some .int)
theorem okX13_evening : MOK mX13_evening 1 := ⟨lwg_mem 1142 (by decide +kernel) rfl, lwg_mem 67 (by decide +kernel) rfl, ⟨rfl, plainFor_of_name (by decide +kernel)⟩, by decide +kernel, by decide⟩
theorem viX13_evening : Cond.instanceMethod mX13_evening.2.1 ∈ lwg ∧ Cond.selects mX13_evening.2.1.cls mX13_evening.2.1 mX13_evening.2.1 ∈ lwg := ⟨lwg_mem 1140 (by decide +kernel) rfl, lwg_mem 1141 (by decide +kernel) rfl⟩
def mX13_mayPass : MD := (RX13, yX13_mayPass, cX13_mayPass, 2, some .int)
theorem okX13_mayPass : MOK mX13_mayPass 1 := ⟨lwg_mem 1146 (by decide +kernel) rfl, lwg_mem 67 (by decide +kernel) rfl, ⟨rfl, plainFor_of_name (by decide +kernel)⟩, by decide +kernel, by decide⟩
theorem viX13_mayPass : Cond.instanceMethod mX13_mayPass.2.1 ∈ lwg ∧ Cond.selects mX13_mayPass.2.1.cls mX13_mayPass.2.1 mX13_mayPass.2.1 ∈ lwg := ⟨lwg_mem 1145 (by decide +kernel) rfl, lwg_mem 50 (by decide +kernel) rfl⟩
def mX13_ends : MD := (RX13, yX13_ends, cX13_ends, 2, none)
theorem okX13_ends : MOK mX13_ends 0 := ⟨lwg_mem 1150 (by decide +kernel) rfl, lwg_mem 67 (by decide +kernel) rfl, ⟨rfl, plainFor_of_name (by decide +kernel)⟩, by decide +kernel, by decide⟩
theorem viX13_ends : Cond.instanceMethod mX13_ends.2.1 ∈ lwg ∧ Cond.selects mX13_ends.2.1.cls mX13_ends.2.1 mX13_ends.2.1 ∈ lwg := ⟨lwg_mem 1149 (by decide +kernel) rfl, lwg_mem 51 (by decide +kernel) rfl⟩
def mX13_drift : MD := (RX13, yX13_drift, cX13_drift, 4, some .int)
theorem okX13_drift : MOK mX13_drift 1 := ⟨lwg_mem 1154 (by decide +kernel) rfl, lwg_mem 67 (by decide +kernel) rfl, ⟨rfl, plainFor_of_name (by decide +kernel)⟩, by decide +kernel, by decide⟩
theorem viX13_drift : Cond.instanceMethod mX13_drift.2.1 ∈ lwg ∧ Cond.selects mX13_drift.2.1.cls mX13_drift.2.1 mX13_drift.2.1 ∈ lwg := ⟨lwg_mem 1152 (by decide +kernel) rfl, lwg_mem 1153 (by decide +kernel) rfl⟩
def mX13_drifts : MD := (RX13, yX13_drifts, cX13_drifts, 5, none)
theorem okX13_drifts : MOK mX13_drifts 0 := ⟨lwg_mem 1158 (by decide +kernel) rfl, lwg_mem 67 (by decide +kernel) rfl, ⟨rfl, plainFor_of_name (by decide +kernel)⟩, by decide +kernel, by decide⟩
theorem viX13_drifts : Cond.instanceMethod mX13_drifts.2.1 ∈ lwg ∧ Cond.selects mX13_drifts.2.1.cls mX13_drifts.2.1 mX13_drifts.2.1 ∈ lwg := ⟨lwg_mem 1157 (by decide +kernel) rfl, lwg_mem 52 (by decide +kernel) rfl⟩
def mX13_draw : MD := (RX13, yX13_draw, cX13_draw, 2, some .int)
theorem okX13_draw : MOK mX13_draw 1 := ⟨lwg_mem 1162 (by decide +kernel) rfl, lwg_mem 67 (by decide +kernel) rfl, ⟨rfl, plainFor_of_name (by decide +kernel)⟩, by decide +kernel, by decide⟩
theorem viX13_draw : Cond.instanceMethod mX13_draw.2.1 ∈ lwg ∧ Cond.selects mX13_draw.2.1.cls mX13_draw.2.1 mX13_draw.2.1 ∈ lwg := ⟨lwg_mem 1161 (by decide +kernel) rfl, lwg_mem 53 (by decide +kernel) rfl⟩
def mX13_undo : MD := (RX13, yX13_undo, cX13_undo, 3, some .int)
theorem okX13_undo : MOK mX13_undo 1 := ⟨lwg_mem 1170 (by decide +kernel) rfl, lwg_mem 67 (by decide +kernel) rfl, ⟨rfl, plainFor_of_name (by decide +kernel)⟩, by decide +kernel, by decide⟩
theorem viX13_undo : Cond.instanceMethod mX13_undo.2.1 ∈ lwg ∧ Cond.selects mX13_undo.2.1.cls mX13_undo.2.1 mX13_undo.2.1 ∈ lwg := ⟨lwg_mem 1168 (by decide +kernel) rfl, lwg_mem 1169 (by decide +kernel) rfl⟩
def mX13_can : MD := (RX13, yX13_can, cX13_can, 3, some .int)
theorem okX13_can : MOK mX13_can 2 := ⟨lwg_mem 1175 (by decide +kernel) rfl, lwg_mem 67 (by decide +kernel) rfl, ⟨rfl, plainFor_of_name (by decide +kernel)⟩, by decide +kernel, by decide⟩
theorem viX13_can : Cond.instanceMethod mX13_can.2.1 ∈ lwg ∧ Cond.selects mX13_can.2.1.cls mX13_can.2.1 mX13_can.2.1 ∈ lwg := ⟨lwg_mem 1173 (by decide +kernel) rfl, lwg_mem 1174 (by decide +kernel) rfl⟩
def mX13_pays : MD := (RX13, yX13_pays, cX13_pays, 3, some .int)
theorem okX13_pays : MOK mX13_pays 2 := ⟨lwg_mem 1179 (by decide +kernel) rfl, lwg_mem 67 (by decide +kernel) rfl, ⟨rfl, plainFor_of_name (by decide +kernel)⟩, by decide +kernel, by decide⟩
theorem viX13_pays : Cond.instanceMethod mX13_pays.2.1 ∈ lwg ∧ Cond.selects mX13_pays.2.1.cls mX13_pays.2.1 mX13_pays.2.1 ∈ lwg := ⟨lwg_mem 1177 (by decide +kernel) rfl, lwg_mem 1178 (by decide +kernel) rfl⟩
def mX13_plan : MD := (RX13, yX13_plan, cX13_plan, 7, some .int)
theorem okX13_plan : MOK mX13_plan 1 := ⟨lwg_mem 1183 (by decide +kernel) rfl, lwg_mem 67 (by decide +kernel) rfl, ⟨rfl, plainFor_of_name (by decide +kernel)⟩, by decide +kernel, by decide⟩
theorem viX13_plan : Cond.instanceMethod mX13_plan.2.1 ∈ lwg ∧ Cond.selects mX13_plan.2.1.cls mX13_plan.2.1 mX13_plan.2.1 ∈ lwg := ⟨lwg_mem 1181 (by decide +kernel) rfl, lwg_mem 1182 (by decide +kernel) rfl⟩
def mX13_round : MD := (RX13, yX13_round, cX13_round, 3, some .int)
theorem okX13_round : MOK mX13_round 2 := ⟨lwg_mem 1187 (by decide +kernel) rfl, lwg_mem 67 (by decide +kernel) rfl, ⟨rfl, plainFor_of_name (by decide +kernel)⟩, by decide +kernel, by decide⟩
theorem viX13_round : Cond.instanceMethod mX13_round.2.1 ∈ lwg ∧ Cond.selects mX13_round.2.1.cls mX13_round.2.1 mX13_round.2.1 ∈ lwg := ⟨lwg_mem 1185 (by decide +kernel) rfl, lwg_mem 1186 (by decide +kernel) rfl⟩
def mX13_rounds : MD := (RX13, yX13_rounds, cX13_rounds, 5, none)
theorem okX13_rounds : MOK mX13_rounds 1 := ⟨lwg_mem 1191 (by decide +kernel) rfl, lwg_mem 67 (by decide +kernel) rfl, ⟨rfl, plainFor_of_name (by decide +kernel)⟩, by decide +kernel, by decide⟩
theorem viX13_rounds : Cond.instanceMethod mX13_rounds.2.1 ∈ lwg ∧ Cond.selects mX13_rounds.2.1.cls mX13_rounds.2.1 mX13_rounds.2.1 ∈ lwg := ⟨lwg_mem 1190 (by decide +kernel) rfl, lwg_mem 54 (by decide +kernel) rfl⟩
def mX13_colic : MD := (RX13, yX13_colic, cX13_colic, 6, some .int)
theorem okX13_colic : MOK mX13_colic 2 := ⟨lwg_mem 1195 (by decide +kernel) rfl, lwg_mem 67 (by decide +kernel) rfl, ⟨rfl, plainFor_of_name (by decide +kernel)⟩, by decide +kernel, by decide⟩
theorem viX13_colic : Cond.instanceMethod mX13_colic.2.1 ∈ lwg ∧ Cond.selects mX13_colic.2.1.cls mX13_colic.2.1 mX13_colic.2.1 ∈ lwg := ⟨lwg_mem 1193 (by decide +kernel) rfl, lwg_mem 1194 (by decide +kernel) rfl⟩
def mX13_owed : MD := (RX13, yX13_owed, cX13_owed, 3, some .int)
theorem okX13_owed : MOK mX13_owed 2 := ⟨lwg_mem 1201 (by decide +kernel) rfl, lwg_mem 67 (by decide +kernel) rfl, ⟨rfl, plainFor_of_name (by decide +kernel)⟩, by decide +kernel, by decide⟩
theorem viX13_owed : Cond.instanceMethod mX13_owed.2.1 ∈ lwg ∧ Cond.selects mX13_owed.2.1.cls mX13_owed.2.1 mX13_owed.2.1 ∈ lwg := ⟨lwg_mem 1199 (by decide +kernel) rfl, lwg_mem 1200 (by decide +kernel) rfl⟩
def mX13_couldBe : MD := (RX13, yX13_couldBe, cX13_couldBe, 5, some .int)
theorem okX13_couldBe : MOK mX13_couldBe 0 := ⟨lwg_mem 1205 (by decide +kernel) rfl, lwg_mem 67 (by decide +kernel) rfl, ⟨rfl, plainFor_of_name (by decide +kernel)⟩, by decide +kernel, by decide⟩
theorem viX13_couldBe : Cond.instanceMethod mX13_couldBe.2.1 ∈ lwg ∧ Cond.selects mX13_couldBe.2.1.cls mX13_couldBe.2.1 mX13_couldBe.2.1 ∈ lwg := ⟨lwg_mem 1203 (by decide +kernel) rfl, lwg_mem 1204 (by decide +kernel) rfl⟩
def mX13_ask : MD := (RX13, yX13_ask, cX13_ask, 9, some .int)
theorem okX13_ask : MOK mX13_ask 0 := ⟨lwg_mem 1209 (by decide +kernel) rfl, lwg_mem 67 (by decide +kernel) rfl, ⟨rfl, plainFor_of_name (by decide +kernel)⟩, by decide +kernel, by decide⟩
theorem viX13_ask : Cond.instanceMethod mX13_ask.2.1 ∈ lwg ∧ Cond.selects mX13_ask.2.1.cls mX13_ask.2.1 mX13_ask.2.1 ∈ lwg := ⟨lwg_mem 1207 (by decide +kernel) rfl, lwg_mem 1208 (by decide +kernel) rfl⟩
def mX13_write : MD := (RX13, yX13_write, cX13_write, 3, some .int)
theorem okX13_write : MOK mX13_write 2 := ⟨lwg_mem 1214 (by decide +kernel) rfl, lwg_mem 67 (by decide +kernel) rfl, ⟨rfl, plainFor_of_name (by decide +kernel)⟩, by decide +kernel, by decide⟩
theorem viX13_write : Cond.instanceMethod mX13_write.2.1 ∈ lwg ∧ Cond.selects mX13_write.2.1.cls mX13_write.2.1 mX13_write.2.1 ∈ lwg := ⟨lwg_mem 1212 (by decide +kernel) rfl, lwg_mem 1213 (by decide +kernel) rfl⟩
def mX13_judge : MD := (RX13, yX13_judge, cX13_judge, 2, some .int)
theorem okX13_judge : MOK mX13_judge 0 := ⟨lwg_mem 1218 (by decide +kernel) rfl, lwg_mem 67 (by decide +kernel) rfl, ⟨rfl, plainFor_of_name (by decide +kernel)⟩, by decide +kernel, by decide⟩
theorem viX13_judge : Cond.instanceMethod mX13_judge.2.1 ∈ lwg ∧ Cond.selects mX13_judge.2.1.cls mX13_judge.2.1 mX13_judge.2.1 ∈ lwg := ⟨lwg_mem 1216 (by decide +kernel) rfl, lwg_mem 1217 (by decide +kernel) rfl⟩
def mX13_tear : MD := (RX13, yX13_tear, cX13_tear, 2, some .int)
theorem okX13_tear : MOK mX13_tear 0 := ⟨lwg_mem 1222 (by decide +kernel) rfl, lwg_mem 67 (by decide +kernel) rfl, ⟨rfl, plainFor_of_name (by decide +kernel)⟩, by decide +kernel, by decide⟩
theorem viX13_tear : Cond.instanceMethod mX13_tear.2.1 ∈ lwg ∧ Cond.selects mX13_tear.2.1.cls mX13_tear.2.1 mX13_tear.2.1 ∈ lwg := ⟨lwg_mem 1220 (by decide +kernel) rfl, lwg_mem 1221 (by decide +kernel) rfl⟩
def mX13_seed : MD := (RX13, yX13_seed, cX13_seed, 3, some .int)
theorem okX13_seed : MOK mX13_seed 1 := ⟨lwg_mem 1226 (by decide +kernel) rfl, lwg_mem 67 (by decide +kernel) rfl, ⟨rfl, plainFor_of_name (by decide +kernel)⟩, by decide +kernel, by decide⟩
theorem viX13_seed : Cond.instanceMethod mX13_seed.2.1 ∈ lwg ∧ Cond.selects mX13_seed.2.1.cls mX13_seed.2.1 mX13_seed.2.1 ∈ lwg := ⟨lwg_mem 1224 (by decide +kernel) rfl, lwg_mem 1225 (by decide +kernel) rfl⟩
def mX13_keep : MD := (RX13, yX13_keep, cX13_keep, 3, some .int)
theorem okX13_keep : MOK mX13_keep 1 := ⟨lwg_mem 1230 (by decide +kernel) rfl, lwg_mem 67 (by decide +kernel) rfl, ⟨rfl, plainFor_of_name (by decide +kernel)⟩, by decide +kernel, by decide⟩
theorem viX13_keep : Cond.instanceMethod mX13_keep.2.1 ∈ lwg ∧ Cond.selects mX13_keep.2.1.cls mX13_keep.2.1 mX13_keep.2.1 ∈ lwg := ⟨lwg_mem 1228 (by decide +kernel) rfl, lwg_mem 1229 (by decide +kernel) rfl⟩
def mX13_goBack : MD := (RX13, yX13_goBack, cX13_goBack, 3, some .int)
theorem okX13_goBack : MOK mX13_goBack 1 := ⟨lwg_mem 1234 (by decide +kernel) rfl, lwg_mem 67 (by decide +kernel) rfl, ⟨rfl, plainFor_of_name (by decide +kernel)⟩, by decide +kernel, by decide⟩
theorem viX13_goBack : Cond.instanceMethod mX13_goBack.2.1 ∈ lwg ∧ Cond.selects mX13_goBack.2.1.cls mX13_goBack.2.1 mX13_goBack.2.1 ∈ lwg := ⟨lwg_mem 1232 (by decide +kernel) rfl, lwg_mem 1233 (by decide +kernel) rfl⟩
theorem lkL_9 : Cond.methodLink RL 9 mX12_init.2.1 ∈ lwg := lwg_mem 74 (by decide +kernel) rfl
theorem lkX12_1 : Cond.methodLink RX12 1 Lib.objectInit ∈ lwg ∧ Cond.instanceMethod Lib.objectInit ∈ lwg ∧ Cond.code Lib.objectInit ⟨#[0xb1]⟩ 1 none ∈ lwg := ⟨lwg_mem 77 (by decide +kernel) rfl, lwg_mem 78 (by decide +kernel) rfl, lwg_mem 79 (by decide +kernel) rfl⟩
theorem lkX8_3 : Cond.methodLink RX8 3 Lib.objectInit ∈ lwg ∧ Cond.instanceMethod Lib.objectInit ∈ lwg ∧ Cond.code Lib.objectInit ⟨#[0xb1]⟩ 1 none ∈ lwg := ⟨lwg_mem 85 (by decide +kernel) rfl, lwg_mem 78 (by decide +kernel) rfl, lwg_mem 79 (by decide +kernel) rfl⟩
theorem lkX3_3 : Cond.methodLink RX3 3 Lib.objectInit ∈ lwg ∧ Cond.instanceMethod Lib.objectInit ∈ lwg ∧ Cond.code Lib.objectInit ⟨#[0xb1]⟩ 1 none ∈ lwg := ⟨lwg_mem 110 (by decide +kernel) rfl, lwg_mem 78 (by decide +kernel) rfl, lwg_mem 79 (by decide +kernel) rfl⟩
theorem lkX4_3 : Cond.methodLink RX4 3 Lib.objectInit ∈ lwg ∧ Cond.instanceMethod Lib.objectInit ∈ lwg ∧ Cond.code Lib.objectInit ⟨#[0xb1]⟩ 1 none ∈ lwg := ⟨lwg_mem 116 (by decide +kernel) rfl, lwg_mem 78 (by decide +kernel) rfl, lwg_mem 79 (by decide +kernel) rfl⟩
theorem lkX10_3 : Cond.methodLink RX10 3 Lib.objectInit ∈ lwg ∧ Cond.instanceMethod Lib.objectInit ∈ lwg ∧ Cond.code Lib.objectInit ⟨#[0xb1]⟩ 1 none ∈ lwg := ⟨lwg_mem 189 (by decide +kernel) rfl, lwg_mem 78 (by decide +kernel) rfl, lwg_mem 79 (by decide +kernel) rfl⟩
theorem lkX7_3 : Cond.methodLink RX7 3 Lib.objectInit ∈ lwg ∧ Cond.instanceMethod Lib.objectInit ∈ lwg ∧ Cond.code Lib.objectInit ⟨#[0xb1]⟩ 1 none ∈ lwg := ⟨lwg_mem 282 (by decide +kernel) rfl, lwg_mem 78 (by decide +kernel) rfl, lwg_mem 79 (by decide +kernel) rfl⟩
theorem lkX9_3 : Cond.methodLink RX9 3 Lib.objectInit ∈ lwg ∧ Cond.instanceMethod Lib.objectInit ∈ lwg ∧ Cond.code Lib.objectInit ⟨#[0xb1]⟩ 1 none ∈ lwg := ⟨lwg_mem 301 (by decide +kernel) rfl, lwg_mem 78 (by decide +kernel) rfl, lwg_mem 79 (by decide +kernel) rfl⟩
theorem lkX12_39 : Cond.methodLink RX12 39 mX6_init.2.1 ∈ lwg := lwg_mem 325 (by decide +kernel) rfl
theorem lkX6_3 : Cond.methodLink RX6 3 Lib.objectInit ∈ lwg ∧ Cond.instanceMethod Lib.objectInit ∈ lwg ∧ Cond.code Lib.objectInit ⟨#[0xb1]⟩ 1 none ∈ lwg := ⟨lwg_mem 328 (by decide +kernel) rfl, lwg_mem 78 (by decide +kernel) rfl, lwg_mem 79 (by decide +kernel) rfl⟩
theorem lkX11_3 : Cond.methodLink RX11 3 Lib.objectInit ∈ lwg ∧ Cond.instanceMethod Lib.objectInit ∈ lwg ∧ Cond.code Lib.objectInit ⟨#[0xb1]⟩ 1 none ∈ lwg := ⟨lwg_mem 348 (by decide +kernel) rfl, lwg_mem 78 (by decide +kernel) rfl, lwg_mem 79 (by decide +kernel) rfl⟩
theorem lkX0_3 : Cond.methodLink RX0 3 Lib.objectInit ∈ lwg ∧ Cond.instanceMethod Lib.objectInit ∈ lwg ∧ Cond.code Lib.objectInit ⟨#[0xb1]⟩ 1 none ∈ lwg := ⟨lwg_mem 366 (by decide +kernel) rfl, lwg_mem 78 (by decide +kernel) rfl, lwg_mem 79 (by decide +kernel) rfl⟩
theorem lkX2_1 : Cond.methodLink RX2 1 Lib.objectInit ∈ lwg ∧ Cond.instanceMethod Lib.objectInit ∈ lwg ∧ Cond.code Lib.objectInit ⟨#[0xb1]⟩ 1 none ∈ lwg := ⟨lwg_mem 386 (by decide +kernel) rfl, lwg_mem 78 (by decide +kernel) rfl, lwg_mem 79 (by decide +kernel) rfl⟩
theorem lkL_13 : Cond.methodLink RL 13 mX12_feed.2.1 ∈ lwg := lwg_mem 431 (by decide +kernel) rfl
theorem lkX12_78 : Cond.methodLink RX12 78 mX8_add.2.1 ∈ lwg := lwg_mem 437 (by decide +kernel) rfl
theorem lkL_18 : Cond.methodLink RL 18 mX12_row.2.1 ∈ lwg := lwg_mem 441 (by decide +kernel) rfl
theorem lkX12_82 : Cond.methodLink RX12 82 mX8_readInto.2.1 ∈ lwg := lwg_mem 445 (by decide +kernel) rfl
theorem lkX8_22 : Cond.methodLink RX8 22 mX10_clear.2.1 ∈ lwg := lwg_mem 449 (by decide +kernel) rfl
theorem lkX8_33 : Cond.methodLink RX8 33 mX8_skipBlanks.2.1 ∈ lwg := lwg_mem 453 (by decide +kernel) rfl
theorem lkX8_36 : Cond.methodLink RX8 36 mX8_readClause.2.1 ∈ lwg := lwg_mem 457 (by decide +kernel) rfl
theorem lkX8_43 : Cond.methodLink RX8 43 mX8_readHouses.2.1 ∈ lwg := lwg_mem 461 (by decide +kernel) rfl
theorem lkX8_53 : Cond.methodLink RX8 53 mX8_blame.2.1 ∈ lwg := lwg_mem 465 (by decide +kernel) rfl
theorem lkX8_57 : Cond.methodLink RX8 57 mX8_readNumber.2.1 ∈ lwg := lwg_mem 469 (by decide +kernel) rfl
theorem lkX8_95 : Cond.methodLink RX8 95 mX8_isFigure.2.1 ∈ lwg := lwg_mem 473 (by decide +kernel) rfl
theorem lkX8_61 : Cond.methodLink RX8 61 mX8_readEnd.2.1 ∈ lwg := lwg_mem 476 (by decide +kernel) rfl
theorem lkX8_47 : Cond.methodLink RX8 47 mX8_readSinger.2.1 ∈ lwg := lwg_mem 480 (by decide +kernel) rfl
theorem lkX8_50 : Cond.methodLink RX8 50 mX8_readChild.2.1 ∈ lwg := lwg_mem 484 (by decide +kernel) rfl
theorem lkX12_89 : Cond.methodLink RX12 89 mX3_begin.2.1 ∈ lwg := lwg_mem 488 (by decide +kernel) rfl
theorem lkX3_59 : Cond.methodLink RX3 59 mX3_beginEvening.2.1 ∈ lwg := lwg_mem 492 (by decide +kernel) rfl
theorem lkX12_93 : Cond.methodLink RX12 93 mX6_forget.2.1 ∈ lwg := lwg_mem 496 (by decide +kernel) rfl
theorem lkX12_96 : Cond.methodLink RX12 96 mX11_clear.2.1 ∈ lwg := lwg_mem 500 (by decide +kernel) rfl
theorem lkX12_99 : Cond.methodLink RX12 99 mX0_clear.2.1 ∈ lwg := lwg_mem 504 (by decide +kernel) rfl
theorem lkL_23 : Cond.methodLink RL 23 mX12_fault.2.1 ∈ lwg := lwg_mem 508 (by decide +kernel) rfl
theorem lkL_27 : Cond.methodLink RL 27 mX12_told.2.1 ∈ lwg := lwg_mem 512 (by decide +kernel) rfl
theorem lkX12_131 : Cond.methodLink RX12 131 mX5_freeSingers.2.1 ∈ lwg := lwg_mem 516 (by decide +kernel) rfl
theorem lkX12_143 : Cond.methodLink RX12 143 mX5_allNotches.2.1 ∈ lwg := lwg_mem 519 (by decide +kernel) rfl
theorem lkX12_146 : Cond.methodLink RX12 146 mX5_lastSinger.2.1 ∈ lwg := lwg_mem 522 (by decide +kernel) rfl
theorem lkX12_149 : Cond.methodLink RX12 149 mX5_hardestChild.2.1 ∈ lwg := lwg_mem 525 (by decide +kernel) rfl
theorem lkX5_34 : Cond.methodLink RX5 34 mX3_needsOf.2.1 ∈ lwg := lwg_mem 528 (by decide +kernel) rfl
theorem lkX3_72 : Cond.methodLink RX3 72 mX3_isAwake.2.1 ∈ lwg := lwg_mem 532 (by decide +kernel) rfl
theorem lkX3_84 : Cond.methodLink RX3 84 Lib.Math.max.name ∈ lwg ∧ Cond.static Lib.Math.max.name ∈ lwg ∧ Cond.initialized "java/lang/Math" ∈ lwg ∧ Cond.code Lib.Math.max.name Lib.Math.max.code 2 (some .int) ∈ lwg := ⟨lwg_mem 536 (by decide +kernel) rfl, lwg_mem 537 (by decide +kernel) rfl, lwg_mem 69 (by decide +kernel) rfl, lwg_mem 538 (by decide +kernel) rfl⟩
theorem lkX12_152 : Cond.methodLink RX12 152 mX5_spreadOfChildren.2.1 ∈ lwg := lwg_mem 539 (by decide +kernel) rfl
theorem lkX5_41 : Cond.methodLink RX5 41 Lib.Math.min.name ∈ lwg ∧ Cond.static Lib.Math.min.name ∈ lwg ∧ Cond.initialized "java/lang/Math" ∈ lwg ∧ Cond.code Lib.Math.min.name Lib.Math.min.code 2 (some .int) ∈ lwg := ⟨lwg_mem 542 (by decide +kernel) rfl, lwg_mem 543 (by decide +kernel) rfl, lwg_mem 69 (by decide +kernel) rfl, lwg_mem 544 (by decide +kernel) rfl⟩
theorem lkX5_47 : Cond.methodLink RX5 47 Lib.Math.max.name ∈ lwg ∧ Cond.static Lib.Math.max.name ∈ lwg ∧ Cond.initialized "java/lang/Math" ∈ lwg ∧ Cond.code Lib.Math.max.name Lib.Math.max.code 2 (some .int) ∈ lwg := ⟨lwg_mem 545 (by decide +kernel) rfl, lwg_mem 537 (by decide +kernel) rfl, lwg_mem 69 (by decide +kernel) rfl, lwg_mem 538 (by decide +kernel) rfl⟩
theorem lkX12_155 : Cond.methodLink RX12 155 mX7_mostAsleep.2.1 ∈ lwg := lwg_mem 546 (by decide +kernel) rfl
theorem lkX7_18 : Cond.methodLink RX7 18 mX7_weigh.2.1 ∈ lwg := lwg_mem 550 (by decide +kernel) rfl
theorem lkX7_46 : Cond.methodLink RX7 46 mX3_wouldPay.2.1 ∈ lwg := lwg_mem 554 (by decide +kernel) rfl
theorem lkX3_115 : Cond.methodLink RX3 115 mX3_couldPutDown.2.1 ∈ lwg := lwg_mem 558 (by decide +kernel) rfl
theorem lkX3_106 : Cond.methodLink RX3 106 mX3_stepsTo.2.1 ∈ lwg := lwg_mem 562 (by decide +kernel) rfl
theorem lkX3_102 : Cond.methodLink RX3 102 Lib.Math.abs.name ∈ lwg ∧ Cond.static Lib.Math.abs.name ∈ lwg ∧ Cond.initialized "java/lang/Math" ∈ lwg ∧ Cond.code Lib.Math.abs.name Lib.Math.abs.code 1 (some .int) ∈ lwg := ⟨lwg_mem 566 (by decide +kernel) rfl, lwg_mem 567 (by decide +kernel) rfl, lwg_mem 69 (by decide +kernel) rfl, lwg_mem 568 (by decide +kernel) rfl⟩
theorem lkX3_109 : Cond.methodLink RX3 109 mX3_needsOf.2.1 ∈ lwg := lwg_mem 569 (by decide +kernel) rfl
theorem lkX3_119 : Cond.methodLink RX3 119 mX3_songPaysTo.2.1 ∈ lwg := lwg_mem 570 (by decide +kernel) rfl
theorem lkX3_96 : Cond.methodLink RX3 96 mX3_songPays.2.1 ∈ lwg := lwg_mem 574 (by decide +kernel) rfl
theorem lkX3_122 : Cond.methodLink RX3 122 Lib.Math.min.name ∈ lwg ∧ Cond.static Lib.Math.min.name ∈ lwg ∧ Cond.initialized "java/lang/Math" ∈ lwg ∧ Cond.code Lib.Math.min.name Lib.Math.min.code 2 (some .int) ∈ lwg := ⟨lwg_mem 578 (by decide +kernel) rfl, lwg_mem 543 (by decide +kernel) rfl, lwg_mem 69 (by decide +kernel) rfl, lwg_mem 544 (by decide +kernel) rfl⟩
theorem lkX7_49 : Cond.methodLink RX7 49 Lib.Math.min.name ∈ lwg ∧ Cond.static Lib.Math.min.name ∈ lwg ∧ Cond.initialized "java/lang/Math" ∈ lwg ∧ Cond.code Lib.Math.min.name Lib.Math.min.code 2 (some .int) ∈ lwg := ⟨lwg_mem 579 (by decide +kernel) rfl, lwg_mem 543 (by decide +kernel) rfl, lwg_mem 69 (by decide +kernel) rfl, lwg_mem 544 (by decide +kernel) rfl⟩
theorem lkX7_22 : Cond.methodLink RX7 22 mX7_solve.2.1 ∈ lwg := lwg_mem 580 (by decide +kernel) rfl
theorem lkX7_54 : Cond.methodLink RX7 54 mX7_bestFrom.2.1 ∈ lwg := lwg_mem 584 (by decide +kernel) rfl
theorem lkX7_57 : Cond.methodLink RX7 57 mX7_isOpen.2.1 ∈ lwg := lwg_mem 588 (by decide +kernel) rfl
theorem lkX7_61 : Cond.methodLink RX7 61 mX7_reachedWith.2.1 ∈ lwg := lwg_mem 592 (by decide +kernel) rfl
theorem lkX7_65 : Cond.methodLink RX7 65 Lib.Math.max.name ∈ lwg ∧ Cond.static Lib.Math.max.name ∈ lwg ∧ Cond.initialized "java/lang/Math" ∈ lwg ∧ Cond.code Lib.Math.max.name Lib.Math.max.code 2 (some .int) ∈ lwg := ⟨lwg_mem 596 (by decide +kernel) rfl, lwg_mem 537 (by decide +kernel) rfl, lwg_mem 69 (by decide +kernel) rfl, lwg_mem 538 (by decide +kernel) rfl⟩
theorem lkX12_158 : Cond.methodLink RX12 158 mX5_willDefault.2.1 ∈ lwg := lwg_mem 597 (by decide +kernel) rfl
theorem lkX5_62 : Cond.methodLink RX5 62 mX5_eveningsTillFree.2.1 ∈ lwg := lwg_mem 600 (by decide +kernel) rfl
theorem lkX5_56 : Cond.methodLink RX5 56 mX3_songPays.2.1 ∈ lwg := lwg_mem 603 (by decide +kernel) rfl
theorem lkX5_68 : Cond.methodLink RX5 68 mX5_eveningsTillDue.2.1 ∈ lwg := lwg_mem 604 (by decide +kernel) rfl
theorem lkL_31 : Cond.methodLink RL 31 mX12_singer.2.1 ∈ lwg := lwg_mem 607 (by decide +kernel) rfl
theorem lkX12_166 : Cond.methodLink RX12 166 mX3_hasSinger.2.1 ∈ lwg := lwg_mem 611 (by decide +kernel) rfl
theorem lkX12_189 : Cond.methodLink RX12 189 mX5_eveningsTillFree.2.1 ∈ lwg := lwg_mem 616 (by decide +kernel) rfl
theorem lkL_36 : Cond.methodLink RL 36 mX12_child.2.1 ∈ lwg := lwg_mem 617 (by decide +kernel) rfl
theorem lkX12_193 : Cond.methodLink RX12 193 mX3_hasChild.2.1 ∈ lwg := lwg_mem 621 (by decide +kernel) rfl
theorem lkX12_205 : Cond.methodLink RX12 205 mX3_isAwake.2.1 ∈ lwg := lwg_mem 625 (by decide +kernel) rfl
theorem lkX12_214 : Cond.methodLink RX12 214 mX3_needsOf.2.1 ∈ lwg := lwg_mem 626 (by decide +kernel) rfl
theorem lkL_40 : Cond.methodLink RL 40 mX12_go.2.1 ∈ lwg := lwg_mem 627 (by decide +kernel) rfl
theorem lkX12_218 : Cond.methodLink RX12 218 mX3_mayWalk.2.1 ∈ lwg := lwg_mem 631 (by decide +kernel) rfl
theorem lkX12_223 : Cond.methodLink RX12 223 mX6_remember.2.1 ∈ lwg := lwg_mem 636 (by decide +kernel) rfl
theorem lkX6_22 : Cond.methodLink RX6 22 mX4_copyFrom.2.1 ∈ lwg := lwg_mem 640 (by decide +kernel) rfl
theorem lkX4_33 : Cond.methodLink RX4 33 arraycopyName ∈ lwg ∧ Cond.native arraycopyName ∈ lwg ∧ Cond.static arraycopyName ∈ lwg ∧ Cond.initialized "java/lang/System" ∈ lwg := ⟨lwg_mem 644 (by decide +kernel) rfl, lwg_mem 646 (by decide +kernel) rfl, lwg_mem 645 (by decide +kernel) rfl, lwg_mem 70 (by decide +kernel) rfl⟩
theorem lkX6_29 : Cond.methodLink RX6 29 Lib.Math.min.name ∈ lwg ∧ Cond.static Lib.Math.min.name ∈ lwg ∧ Cond.initialized "java/lang/Math" ∈ lwg ∧ Cond.code Lib.Math.min.name Lib.Math.min.code 2 (some .int) ∈ lwg := ⟨lwg_mem 647 (by decide +kernel) rfl, lwg_mem 543 (by decide +kernel) rfl, lwg_mem 69 (by decide +kernel) rfl, lwg_mem 544 (by decide +kernel) rfl⟩
theorem lkX12_227 : Cond.methodLink RX12 227 mX3_walk.2.1 ∈ lwg := lwg_mem 648 (by decide +kernel) rfl
theorem lkL_44 : Cond.methodLink RL 44 mX12_sing.2.1 ∈ lwg := lwg_mem 652 (by decide +kernel) rfl
theorem lkX12_231 : Cond.methodLink RX12 231 mX3_hasBoth.2.1 ∈ lwg := lwg_mem 656 (by decide +kernel) rfl
theorem lkX3_62 : Cond.methodLink RX3 62 mX3_hasSinger.2.1 ∈ lwg := lwg_mem 660 (by decide +kernel) rfl
theorem lkX3_66 : Cond.methodLink RX3 66 mX3_hasChild.2.1 ∈ lwg := lwg_mem 661 (by decide +kernel) rfl
theorem lkX12_234 : Cond.methodLink RX12 234 mX3_mayLull.2.1 ∈ lwg := lwg_mem 662 (by decide +kernel) rfl
theorem lkX12_237 : Cond.methodLink RX12 237 mX3_lull.2.1 ∈ lwg := lwg_mem 666 (by decide +kernel) rfl
theorem lkL_48 : Cond.methodLink RL 48 mX12_carry.2.1 ∈ lwg := lwg_mem 670 (by decide +kernel) rfl
theorem lkX12_241 : Cond.methodLink RX12 241 mX3_mayPass.2.1 ∈ lwg := lwg_mem 674 (by decide +kernel) rfl
theorem lkX12_244 : Cond.methodLink RX12 244 mX3_pass.2.1 ∈ lwg := lwg_mem 678 (by decide +kernel) rfl
theorem lkL_52 : Cond.methodLink RL 52 mX12_evening.2.1 ∈ lwg := lwg_mem 682 (by decide +kernel) rfl
theorem lkX12_247 : Cond.methodLink RX12 247 mX12_refuseTimes.2.1 ∈ lwg := lwg_mem 686 (by decide +kernel) rfl
theorem lkX12_250 : Cond.methodLink RX12 250 mX3_endEvening.2.1 ∈ lwg := lwg_mem 690 (by decide +kernel) rfl
theorem lkX3_141 : Cond.methodLink RX3 141 mX3_addYear.2.1 ∈ lwg := lwg_mem 694 (by decide +kernel) rfl
theorem lkL_56 : Cond.methodLink RL 56 mX12_drift.2.1 ∈ lwg := lwg_mem 698 (by decide +kernel) rfl
theorem lkX12_253 : Cond.methodLink RX12 253 mX12_doByDraws.2.1 ∈ lwg := lwg_mem 702 (by decide +kernel) rfl
theorem lkX12_316 : Cond.methodLink RX12 316 mX12_drawOf.2.1 ∈ lwg := lwg_mem 706 (by decide +kernel) rfl
theorem lkX12_319 : Cond.methodLink RX12 319 mX3_visit.2.1 ∈ lwg := lwg_mem 714 (by decide +kernel) rfl
theorem lkX3_128 : Cond.methodLink RX3 128 mX3_mayWalk.2.1 ∈ lwg := lwg_mem 718 (by decide +kernel) rfl
theorem lkX3_131 : Cond.methodLink RX3 131 mX3_walk.2.1 ∈ lwg := lwg_mem 719 (by decide +kernel) rfl
theorem lkX3_135 : Cond.methodLink RX3 135 mX3_mayLull.2.1 ∈ lwg := lwg_mem 720 (by decide +kernel) rfl
theorem lkX3_138 : Cond.methodLink RX3 138 mX3_lull.2.1 ∈ lwg := lwg_mem 721 (by decide +kernel) rfl
theorem lkL_60 : Cond.methodLink RL 60 mX12_undo.2.1 ∈ lwg := lwg_mem 722 (by decide +kernel) rfl
theorem lkX12_256 : Cond.methodLink RX12 256 mX6_takeBack.2.1 ∈ lwg := lwg_mem 726 (by decide +kernel) rfl
theorem lkX6_35 : Cond.methodLink RX6 35 mJ9_floorMod_7cf53.2.1 ∈ lwg := lwg_mem 730 (by decide +kernel) rfl
theorem lkL_64 : Cond.methodLink RL 64 mX12_steps.2.1 ∈ lwg := lwg_mem 733 (by decide +kernel) rfl
theorem lkX12_260 : Cond.methodLink RX12 260 mX3_stepsTo.2.1 ∈ lwg := lwg_mem 737 (by decide +kernel) rfl
theorem lkL_68 : Cond.methodLink RL 68 mX12_can.2.1 ∈ lwg := lwg_mem 738 (by decide +kernel) rfl
theorem lkX12_263 : Cond.methodLink RX12 263 mX3_couldPutDown.2.1 ∈ lwg := lwg_mem 742 (by decide +kernel) rfl
theorem lkL_72 : Cond.methodLink RL 72 mX12_pays.2.1 ∈ lwg := lwg_mem 743 (by decide +kernel) rfl
theorem lkX12_266 : Cond.methodLink RX12 266 mX3_wouldPay.2.1 ∈ lwg := lwg_mem 747 (by decide +kernel) rfl
theorem lkL_76 : Cond.methodLink RL 76 mX12_plan.2.1 ∈ lwg := lwg_mem 748 (by decide +kernel) rfl
theorem lkX12_269 : Cond.methodLink RX12 269 mX7_mostPaid.2.1 ∈ lwg := lwg_mem 752 (by decide +kernel) rfl
theorem lkX12_272 : Cond.methodLink RX12 272 mX7_childOf.2.1 ∈ lwg := lwg_mem 756 (by decide +kernel) rfl
theorem lkX7_25 : Cond.methodLink RX7 25 mX7_firstBest.2.1 ∈ lwg := lwg_mem 760 (by decide +kernel) rfl
theorem lkL_80 : Cond.methodLink RL 80 mX12_round.2.1 ∈ lwg := lwg_mem 764 (by decide +kernel) rfl
theorem lkX12_275 : Cond.methodLink RX12 275 mX9_search.2.1 ∈ lwg := lwg_mem 768 (by decide +kernel) rfl
theorem lkX9_41 : Cond.methodLink RX9 41 mX3_needsOf.2.1 ∈ lwg := lwg_mem 772 (by decide +kernel) rfl
theorem lkX9_45 : Cond.methodLink RX9 45 mX3_songPaysTo.2.1 ∈ lwg := lwg_mem 773 (by decide +kernel) rfl
theorem lkX9_64 : Cond.methodLink RX9 64 mX9_extend.2.1 ∈ lwg := lwg_mem 774 (by decide +kernel) rfl
theorem lkX9_68 : Cond.methodLink RX9 68 Lib.Math.abs.name ∈ lwg ∧ Cond.static Lib.Math.abs.name ∈ lwg ∧ Cond.initialized "java/lang/Math" ∈ lwg ∧ Cond.code Lib.Math.abs.name Lib.Math.abs.code 1 (some .int) ∈ lwg := ⟨lwg_mem 778 (by decide +kernel) rfl, lwg_mem 567 (by decide +kernel) rfl, lwg_mem 69 (by decide +kernel) rfl, lwg_mem 568 (by decide +kernel) rfl⟩
theorem lkL_84 : Cond.methodLink RL 84 mX12_colic.2.1 ∈ lwg := lwg_mem 779 (by decide +kernel) rfl
theorem lkL_88 : Cond.methodLink RL 88 mX12_owed.2.1 ∈ lwg := lwg_mem 785 (by decide +kernel) rfl
theorem lkX12_289 : Cond.methodLink RX12 289 mX11_add.2.1 ∈ lwg := lwg_mem 789 (by decide +kernel) rfl
theorem lkL_93 : Cond.methodLink RL 93 mX12_couldBe.2.1 ∈ lwg := lwg_mem 793 (by decide +kernel) rfl
theorem lkX12_292 : Cond.methodLink RX12 292 mX11_fitting.2.1 ∈ lwg := lwg_mem 797 (by decide +kernel) rfl
theorem lkX11_43 : Cond.methodLink RX11 43 mX11_allFit.2.1 ∈ lwg := lwg_mem 801 (by decide +kernel) rfl
theorem lkL_97 : Cond.methodLink RL 97 mX12_ask.2.1 ∈ lwg := lwg_mem 805 (by decide +kernel) rfl
theorem lkX12_295 : Cond.methodLink RX12 295 mX11_bestQuestion.2.1 ∈ lwg := lwg_mem 809 (by decide +kernel) rfl
theorem lkX11_47 : Cond.methodLink RX11 47 mX11_fitting.2.1 ∈ lwg := lwg_mem 813 (by decide +kernel) rfl
theorem lkX11_51 : Cond.methodLink RX11 51 mJ6_bitCount_0f7a4.2.1 ∈ lwg := lwg_mem 814 (by decide +kernel) rfl
theorem lkX11_57 : Cond.methodLink RX11 57 mX11_owingAtLeast.2.1 ∈ lwg := lwg_mem 820 (by decide +kernel) rfl
theorem lkX11_61 : Cond.methodLink RX11 61 Lib.Math.max.name ∈ lwg ∧ Cond.static Lib.Math.max.name ∈ lwg ∧ Cond.initialized "java/lang/Math" ∈ lwg ∧ Cond.code Lib.Math.max.name Lib.Math.max.code 2 (some .int) ∈ lwg := ⟨lwg_mem 823 (by decide +kernel) rfl, lwg_mem 537 (by decide +kernel) rfl, lwg_mem 69 (by decide +kernel) rfl, lwg_mem 538 (by decide +kernel) rfl⟩
theorem lkL_101 : Cond.methodLink RL 101 mX12_write.2.1 ∈ lwg := lwg_mem 824 (by decide +kernel) rfl
theorem lkX12_298 : Cond.methodLink RX12 298 mX0_add.2.1 ∈ lwg := lwg_mem 828 (by decide +kernel) rfl
theorem lkL_105 : Cond.methodLink RL 105 mX12_judge.2.1 ∈ lwg := lwg_mem 832 (by decide +kernel) rfl
theorem lkX12_300 : Cond.methodLink RX12 300 mX0_firstWrong.2.1 ∈ lwg := lwg_mem 836 (by decide +kernel) rfl
theorem lkL_109 : Cond.methodLink RL 109 mX12_tear.2.1 ∈ lwg := lwg_mem 840 (by decide +kernel) rfl
theorem lkL_113 : Cond.methodLink RL 113 mX12_seed.2.1 ∈ lwg := lwg_mem 844 (by decide +kernel) rfl
theorem lkL_117 : Cond.methodLink RL 117 mX12_keep.2.1 ∈ lwg := lwg_mem 848 (by decide +kernel) rfl
theorem lkX12_310 : Cond.methodLink RX12 310 mX4_copyFrom.2.1 ∈ lwg := lwg_mem 852 (by decide +kernel) rfl
theorem lkL_121 : Cond.methodLink RL 121 mX12_goBack.2.1 ∈ lwg := lwg_mem 853 (by decide +kernel) rfl
theorem lkL_12 : Cond.methodLink RL 12 mX13_init.2.1 ∈ lwg := lwg_mem 859 (by decide +kernel) rfl
theorem lkX13_1 : Cond.methodLink RX13 1 Lib.objectInit ∈ lwg ∧ Cond.instanceMethod Lib.objectInit ∈ lwg ∧ Cond.code Lib.objectInit ⟨#[0xb1]⟩ 1 none ∈ lwg := ⟨lwg_mem 862 (by decide +kernel) rfl, lwg_mem 78 (by decide +kernel) rfl, lwg_mem 79 (by decide +kernel) rfl⟩
theorem lkL_17 : Cond.methodLink RL 17 mX13_feed.2.1 ∈ lwg := lwg_mem 979 (by decide +kernel) rfl
theorem lkL_22 : Cond.methodLink RL 22 mX13_row.2.1 ∈ lwg := lwg_mem 985 (by decide +kernel) rfl
theorem lkX13_123 : Cond.methodLink RX13 123 mX13_reads.2.1 ∈ lwg := lwg_mem 989 (by decide +kernel) rfl
theorem lkX13_92 : Cond.methodLink RX13 92 mX13_skips.2.1 ∈ lwg := lwg_mem 993 (by decide +kernel) rfl
theorem lkX13_119 : Cond.methodLink RX13 119 mX13_clause.2.1 ∈ lwg := lwg_mem 997 (by decide +kernel) rfl
theorem lkX13_99 : Cond.methodLink RX13 99 mX13_faults.2.1 ∈ lwg := lwg_mem 1001 (by decide +kernel) rfl
theorem lkX13_109 : Cond.methodLink RX13 109 mX13_number.2.1 ∈ lwg := lwg_mem 1005 (by decide +kernel) rfl
theorem lkX13_95 : Cond.methodLink RX13 95 mX13_isFigure.2.1 ∈ lwg := lwg_mem 1009 (by decide +kernel) rfl
theorem lkL_26 : Cond.methodLink RL 26 mX13_fault.2.1 ∈ lwg := lwg_mem 1013 (by decide +kernel) rfl
theorem lkL_30 : Cond.methodLink RL 30 mX13_told.2.1 ∈ lwg := lwg_mem 1017 (by decide +kernel) rfl
theorem lkX13_154 : Cond.methodLink RX13 154 mX13_sets.2.1 ∈ lwg := lwg_mem 1021 (by decide +kernel) rfl
theorem lkX13_157 : Cond.methodLink RX13 157 mX13_owedByAll.2.1 ∈ lwg := lwg_mem 1025 (by decide +kernel) rfl
theorem lkX13_161 : Cond.methodLink RX13 161 mX13_last.2.1 ∈ lwg := lwg_mem 1029 (by decide +kernel) rfl
theorem lkX13_141 : Cond.methodLink RX13 141 mX13_max.2.1 ∈ lwg := lwg_mem 1033 (by decide +kernel) rfl
theorem lkX13_164 : Cond.methodLink RX13 164 mX13_hardest.2.1 ∈ lwg := lwg_mem 1037 (by decide +kernel) rfl
theorem lkX13_144 : Cond.methodLink RX13 144 mX13_needs.2.1 ∈ lwg := lwg_mem 1041 (by decide +kernel) rfl
theorem lkX13_167 : Cond.methodLink RX13 167 mX13_spread.2.1 ∈ lwg := lwg_mem 1045 (by decide +kernel) rfl
theorem lkX13_148 : Cond.methodLink RX13 148 mX13_apart.2.1 ∈ lwg := lwg_mem 1049 (by decide +kernel) rfl
theorem lkX13_170 : Cond.methodLink RX13 170 mX13_plans.2.1 ∈ lwg := lwg_mem 1053 (by decide +kernel) rfl
theorem lkX13_234 : Cond.methodLink RX13 234 mX13_could.2.1 ∈ lwg := lwg_mem 1057 (by decide +kernel) rfl
theorem lkX13_231 : Cond.methodLink RX13 231 mX13_steps.2.1 ∈ lwg := lwg_mem 1061 (by decide +kernel) rfl
theorem lkX13_176 : Cond.methodLink RX13 176 mX13_isSinger.2.1 ∈ lwg := lwg_mem 1065 (by decide +kernel) rfl
theorem lkX13_181 : Cond.methodLink RX13 181 mX13_isChild.2.1 ∈ lwg := lwg_mem 1069 (by decide +kernel) rfl
theorem lkX13_240 : Cond.methodLink RX13 240 mX13_worth.2.1 ∈ lwg := lwg_mem 1074 (by decide +kernel) rfl
theorem lkX13_237 : Cond.methodLink RX13 237 mX13_payment.2.1 ∈ lwg := lwg_mem 1078 (by decide +kernel) rfl
theorem lkX13_191 : Cond.methodLink RX13 191 mX13_pay.2.1 ∈ lwg := lwg_mem 1082 (by decide +kernel) rfl
theorem lkX13_188 : Cond.methodLink RX13 188 mX13_min.2.1 ∈ lwg := lwg_mem 1086 (by decide +kernel) rfl
theorem lkX13_173 : Cond.methodLink RX13 173 mX13_willDefault.2.1 ∈ lwg := lwg_mem 1090 (by decide +kernel) rfl
theorem lkX13_151 : Cond.methodLink RX13 151 mX13_never.2.1 ∈ lwg := lwg_mem 1094 (by decide +kernel) rfl
theorem lkL_35 : Cond.methodLink RL 35 mX13_singer.2.1 ∈ lwg := lwg_mem 1098 (by decide +kernel) rfl
theorem lkL_39 : Cond.methodLink RL 39 mX13_child.2.1 ∈ lwg := lwg_mem 1102 (by decide +kernel) rfl
theorem lkL_43 : Cond.methodLink RL 43 mX13_go.2.1 ∈ lwg := lwg_mem 1106 (by decide +kernel) rfl
theorem lkX13_185 : Cond.methodLink RX13 185 mX13_remembers.2.1 ∈ lwg := lwg_mem 1111 (by decide +kernel) rfl
theorem lkL_47 : Cond.methodLink RL 47 mX13_sing.2.1 ∈ lwg := lwg_mem 1115 (by decide +kernel) rfl
theorem lkX13_194 : Cond.methodLink RX13 194 mX13_may.2.1 ∈ lwg := lwg_mem 1119 (by decide +kernel) rfl
theorem lkX13_198 : Cond.methodLink RX13 198 mX13_sings.2.1 ∈ lwg := lwg_mem 1123 (by decide +kernel) rfl
theorem lkL_51 : Cond.methodLink RL 51 mX13_carry.2.1 ∈ lwg := lwg_mem 1127 (by decide +kernel) rfl
theorem lkX13_201 : Cond.methodLink RX13 201 mX13_canBeCarried.2.1 ∈ lwg := lwg_mem 1131 (by decide +kernel) rfl
theorem lkX13_204 : Cond.methodLink RX13 204 mX13_carries.2.1 ∈ lwg := lwg_mem 1135 (by decide +kernel) rfl
theorem lkL_55 : Cond.methodLink RL 55 mX13_evening.2.1 ∈ lwg := lwg_mem 1139 (by decide +kernel) rfl
theorem lkX13_207 : Cond.methodLink RX13 207 mX13_mayPass.2.1 ∈ lwg := lwg_mem 1143 (by decide +kernel) rfl
theorem lkX13_210 : Cond.methodLink RX13 210 mX13_ends.2.1 ∈ lwg := lwg_mem 1147 (by decide +kernel) rfl
theorem lkL_59 : Cond.methodLink RL 59 mX13_drift.2.1 ∈ lwg := lwg_mem 1151 (by decide +kernel) rfl
theorem lkX13_228 : Cond.methodLink RX13 228 mX13_drifts.2.1 ∈ lwg := lwg_mem 1155 (by decide +kernel) rfl
theorem lkX13_225 : Cond.methodLink RX13 225 mX13_draw.2.1 ∈ lwg := lwg_mem 1159 (by decide +kernel) rfl
theorem lkL_63 : Cond.methodLink RL 63 mX13_undo.2.1 ∈ lwg := lwg_mem 1167 (by decide +kernel) rfl
theorem lkL_67 : Cond.methodLink RL 67 mX13_steps.2.1 ∈ lwg := lwg_mem 1171 (by decide +kernel) rfl
theorem lkL_71 : Cond.methodLink RL 71 mX13_can.2.1 ∈ lwg := lwg_mem 1172 (by decide +kernel) rfl
theorem lkL_75 : Cond.methodLink RL 75 mX13_pays.2.1 ∈ lwg := lwg_mem 1176 (by decide +kernel) rfl
theorem lkL_79 : Cond.methodLink RL 79 mX13_plan.2.1 ∈ lwg := lwg_mem 1180 (by decide +kernel) rfl
theorem lkL_83 : Cond.methodLink RL 83 mX13_round.2.1 ∈ lwg := lwg_mem 1184 (by decide +kernel) rfl
theorem lkX13_250 : Cond.methodLink RX13 250 mX13_rounds.2.1 ∈ lwg := lwg_mem 1188 (by decide +kernel) rfl
theorem lkL_87 : Cond.methodLink RL 87 mX13_colic.2.1 ∈ lwg := lwg_mem 1192 (by decide +kernel) rfl
theorem lkL_92 : Cond.methodLink RL 92 mX13_owed.2.1 ∈ lwg := lwg_mem 1198 (by decide +kernel) rfl
theorem lkL_96 : Cond.methodLink RL 96 mX13_couldBe.2.1 ∈ lwg := lwg_mem 1202 (by decide +kernel) rfl
theorem lkL_100 : Cond.methodLink RL 100 mX13_ask.2.1 ∈ lwg := lwg_mem 1206 (by decide +kernel) rfl
theorem lkX13_258 : Cond.methodLink RX13 258 mX13_couldBe.2.1 ∈ lwg := lwg_mem 1210 (by decide +kernel) rfl
theorem lkL_104 : Cond.methodLink RL 104 mX13_write.2.1 ∈ lwg := lwg_mem 1211 (by decide +kernel) rfl
theorem lkL_108 : Cond.methodLink RL 108 mX13_judge.2.1 ∈ lwg := lwg_mem 1215 (by decide +kernel) rfl
theorem lkL_112 : Cond.methodLink RL 112 mX13_tear.2.1 ∈ lwg := lwg_mem 1219 (by decide +kernel) rfl
theorem lkL_116 : Cond.methodLink RL 116 mX13_seed.2.1 ∈ lwg := lwg_mem 1223 (by decide +kernel) rfl
theorem lkL_120 : Cond.methodLink RL 120 mX13_keep.2.1 ∈ lwg := lwg_mem 1227 (by decide +kernel) rfl
theorem lkL_124 : Cond.methodLink RL 124 mX13_goBack.2.1 ∈ lwg := lwg_mem 1231 (by decide +kernel) rfl
theorem nkX12_9 : ∃ host, (RX12, 9, mX8_init.2.1, host) ∈ nsl := ⟨"LullabyDebts", List.mem_of_getElem? (i := 0) rfl⟩
theorem nkX12_18 : ∃ host, (RX12, 18, mX3_init.2.1, host) ∈ nsl := ⟨"LullabyDebts", List.mem_of_getElem? (i := 1) rfl⟩
theorem nkX3_11 : ∃ host, (RX3, 11, mX4_init.2.1, host) ∈ nsl := ⟨"LullabyDebts", List.mem_of_getElem? (i := 2) rfl⟩
theorem nkX3_20 : ∃ host, (RX3, 20, mX10_init.2.1, host) ∈ nsl := ⟨"LullabyDebts", List.mem_of_getElem? (i := 3) rfl⟩
theorem nkX12_25 : ∃ host, (RX12, 25, mX7_init.2.1, host) ∈ nsl := ⟨"LullabyDebts", List.mem_of_getElem? (i := 4) rfl⟩
theorem nkX12_32 : ∃ host, (RX12, 32, mX9_init.2.1, host) ∈ nsl := ⟨"LullabyDebts", List.mem_of_getElem? (i := 5) rfl⟩
theorem nkX6_17 : ∃ host, (RX6, 17, mX4_init.2.1, host) ∈ nsl := ⟨"LullabyDebts", List.mem_of_getElem? (i := 6) rfl⟩
theorem nkX12_46 : ∃ host, (RX12, 46, mX11_init.2.1, host) ∈ nsl := ⟨"LullabyDebts", List.mem_of_getElem? (i := 7) rfl⟩
theorem nkX12_53 : ∃ host, (RX12, 53, mX0_init.2.1, host) ∈ nsl := ⟨"LullabyDebts", List.mem_of_getElem? (i := 8) rfl⟩
theorem nkX12_66 : ∃ host, (RX12, 66, mX10_init.2.1, host) ∈ nsl := ⟨"LullabyDebts", List.mem_of_getElem? (i := 9) rfl⟩
theorem nkX12_71 : ∃ host, (RX12, 71, mX2_init.2.1, host) ∈ nsl := ⟨"LullabyDebts", List.mem_of_getElem? (i := 10) rfl⟩
theorem nkX2_9 : ∃ host, (RX2, 9, mX4_init.2.1, host) ∈ nsl := ⟨"LullabyDebts", List.mem_of_getElem? (i := 11) rfl⟩
theorem ckX12_72 : Cond.constant RX12 72 (-1000000002) ∈ lwg := lwg_mem 435 (by decide +kernel) rfl
theorem ckX12_77 : Cond.constant RX12 77 (-1000000004) ∈ lwg := lwg_mem 436 (by decide +kernel) rfl
theorem ckX12_170 : Cond.constant RX12 170 (-1000000001) ∈ lwg := lwg_mem 615 (by decide +kernel) rfl
theorem ckX12_222 : Cond.constant RX12 222 (-1000000003) ∈ lwg := lwg_mem 635 (by decide +kernel) rfl
theorem ckX12_322 : Cond.constantLong RX12 322 (1103515245) ∈ lwg := lwg_mem 710 (by decide +kernel) rfl
theorem ckX12_324 : Cond.constantLong RX12 324 (12345) ∈ lwg := lwg_mem 711 (by decide +kernel) rfl
theorem ckX12_326 : Cond.constantLong RX12 326 (2147483648) ∈ lwg := lwg_mem 712 (by decide +kernel) rfl
theorem ckX12_328 : Cond.constant RX12 328 (65536) ∈ lwg := lwg_mem 713 (by decide +kernel) rfl
theorem ckX12_285 : Cond.constantLong RX12 285 (1000000000) ∈ lwg := lwg_mem 783 (by decide +kernel) rfl
theorem ckX12_287 : Cond.constantLong RX12 287 (100) ∈ lwg := lwg_mem 784 (by decide +kernel) rfl
theorem ckJ6_265 : Cond.constant RJ6 265 (1431655765) ∈ lwg := lwg_mem 817 (by decide +kernel) rfl
theorem ckJ6_266 : Cond.constant RJ6 266 (858993459) ∈ lwg := lwg_mem 818 (by decide +kernel) rfl
theorem ckJ6_267 : Cond.constant RJ6 267 (252645135) ∈ lwg := lwg_mem 819 (by decide +kernel) rfl
theorem ckX13_81 : Cond.constant RX13 81 (-1000000002) ∈ lwg := lwg_mem 983 (by decide +kernel) rfl
theorem ckX13_85 : Cond.constant RX13 85 (-1000000004) ∈ lwg := lwg_mem 984 (by decide +kernel) rfl
theorem ckX13_180 : Cond.constant RX13 180 (-1000000001) ∈ lwg := lwg_mem 1073 (by decide +kernel) rfl
theorem ckX13_184 : Cond.constant RX13 184 (-1000000003) ∈ lwg := lwg_mem 1110 (by decide +kernel) rfl
theorem ckX13_217 : Cond.constantLong RX13 217 (1103515245) ∈ lwg := lwg_mem 1163 (by decide +kernel) rfl
theorem ckX13_219 : Cond.constantLong RX13 219 (12345) ∈ lwg := lwg_mem 1164 (by decide +kernel) rfl
theorem ckX13_221 : Cond.constantLong RX13 221 (2147483648) ∈ lwg := lwg_mem 1165 (by decide +kernel) rfl
theorem ckX13_223 : Cond.constantLong RX13 223 (65536) ∈ lwg := lwg_mem 1166 (by decide +kernel) rfl
theorem ckX13_254 : Cond.constantLong RX13 254 (1000000000) ∈ lwg := lwg_mem 1196 (by decide +kernel) rfl
theorem ckX13_256 : Cond.constantLong RX13 256 (100) ∈ lwg := lwg_mem 1197 (by decide +kernel) rfl
theorem clL_7 : Cond.classLink RL 7 RX12 ∈ lwg ∧ Cond.instantiable RX12 10 ∈ lwg ∧ Cond.initialized RX12 ∈ lwg := ⟨lwg_mem 72 (by decide +kernel) rfl, lwg_mem 73 (by decide +kernel) rfl, lwg_mem 56 (by decide +kernel) rfl⟩
theorem clX12_7 : Cond.classLink RX12 7 RX8 ∈ lwg ∧ Cond.instantiable RX8 5 ∈ lwg ∧ Cond.initialized RX8 ∈ lwg := ⟨lwg_mem 80 (by decide +kernel) rfl, lwg_mem 81 (by decide +kernel) rfl, lwg_mem 57 (by decide +kernel) rfl⟩
theorem clX12_16 : Cond.classLink RX12 16 RX3 ∈ lwg ∧ Cond.instantiable RX3 2 ∈ lwg ∧ Cond.initialized RX3 ∈ lwg := ⟨lwg_mem 105 (by decide +kernel) rfl, lwg_mem 106 (by decide +kernel) rfl, lwg_mem 58 (by decide +kernel) rfl⟩
theorem clX3_9 : Cond.classLink RX3 9 RX4 ∈ lwg ∧ Cond.instantiable RX4 11 ∈ lwg ∧ Cond.initialized RX4 ∈ lwg := ⟨lwg_mem 111 (by decide +kernel) rfl, lwg_mem 112 (by decide +kernel) rfl, lwg_mem 59 (by decide +kernel) rfl⟩
theorem clX3_18 : Cond.classLink RX3 18 RX10 ∈ lwg ∧ Cond.instantiable RX10 11 ∈ lwg ∧ Cond.initialized RX10 ∈ lwg := ⟨lwg_mem 184 (by decide +kernel) rfl, lwg_mem 185 (by decide +kernel) rfl, lwg_mem 60 (by decide +kernel) rfl⟩
theorem clX12_23 : Cond.classLink RX12 23 RX7 ∈ lwg ∧ Cond.instantiable RX7 4 ∈ lwg ∧ Cond.initialized RX7 ∈ lwg := ⟨lwg_mem 277 (by decide +kernel) rfl, lwg_mem 278 (by decide +kernel) rfl, lwg_mem 61 (by decide +kernel) rfl⟩
theorem clX12_30 : Cond.classLink RX12 30 RX9 ∈ lwg ∧ Cond.instantiable RX9 6 ∈ lwg ∧ Cond.initialized RX9 ∈ lwg := ⟨lwg_mem 296 (by decide +kernel) rfl, lwg_mem 297 (by decide +kernel) rfl, lwg_mem 62 (by decide +kernel) rfl⟩
theorem clX12_37 : Cond.classLink RX12 37 RX6 ∈ lwg ∧ Cond.instantiable RX6 3 ∈ lwg ∧ Cond.initialized RX6 ∈ lwg := ⟨lwg_mem 323 (by decide +kernel) rfl, lwg_mem 324 (by decide +kernel) rfl, lwg_mem 63 (by decide +kernel) rfl⟩
theorem clX6_9 : Cond.classLink RX6 9 RX4 ∈ lwg ∧ Cond.instantiable RX4 11 ∈ lwg ∧ Cond.initialized RX4 ∈ lwg := ⟨lwg_mem 329 (by decide +kernel) rfl, lwg_mem 112 (by decide +kernel) rfl, lwg_mem 59 (by decide +kernel) rfl⟩
theorem clX12_44 : Cond.classLink RX12 44 RX11 ∈ lwg ∧ Cond.instantiable RX11 3 ∈ lwg ∧ Cond.initialized RX11 ∈ lwg := ⟨lwg_mem 343 (by decide +kernel) rfl, lwg_mem 344 (by decide +kernel) rfl, lwg_mem 64 (by decide +kernel) rfl⟩
theorem clX12_51 : Cond.classLink RX12 51 RX0 ∈ lwg ∧ Cond.instantiable RX0 3 ∈ lwg ∧ Cond.initialized RX0 ∈ lwg := ⟨lwg_mem 361 (by decide +kernel) rfl, lwg_mem 362 (by decide +kernel) rfl, lwg_mem 65 (by decide +kernel) rfl⟩
theorem clX12_58 : Cond.classLink RX12 58 RX2 ∈ lwg ∧ Cond.instantiable RX2 3 ∈ lwg ∧ Cond.initialized RX2 ∈ lwg := ⟨lwg_mem 378 (by decide +kernel) rfl, lwg_mem 382 (by decide +kernel) rfl, lwg_mem 66 (by decide +kernel) rfl⟩
theorem clX12_64 : Cond.classLink RX12 64 RX10 ∈ lwg ∧ Cond.instantiable RX10 11 ∈ lwg ∧ Cond.initialized RX10 ∈ lwg := ⟨lwg_mem 380 (by decide +kernel) rfl, lwg_mem 185 (by decide +kernel) rfl, lwg_mem 60 (by decide +kernel) rfl⟩
theorem clX2_7 : Cond.classLink RX2 7 RX4 ∈ lwg ∧ Cond.instantiable RX4 11 ∈ lwg ∧ Cond.initialized RX4 ∈ lwg := ⟨lwg_mem 387 (by decide +kernel) rfl, lwg_mem 112 (by decide +kernel) rfl, lwg_mem 59 (by decide +kernel) rfl⟩
theorem clL_10 : Cond.classLink RL 10 RX13 ∈ lwg ∧ Cond.instantiable RX13 38 ∈ lwg ∧ Cond.initialized RX13 ∈ lwg := ⟨lwg_mem 857 (by decide +kernel) rfl, lwg_mem 858 (by decide +kernel) rfl, lwg_mem 67 (by decide +kernel) rfl⟩
theorem ac_char : Cond.arrayClass (newarray.typeOf .char) ∈ lwg := lwg_mem 104 (by decide +kernel) rfl
theorem ac_int : Cond.arrayClass (newarray.typeOf .int) ∈ lwg := lwg_mem 183 (by decide +kernel) rfl
theorem ac_boolean : Cond.arrayClass (newarray.typeOf .boolean) ∈ lwg := lwg_mem 360 (by decide +kernel) rfl
theorem ac_long : Cond.arrayClass (newarray.typeOf .long) ∈ lwg := lwg_mem 978 (by decide +kernel) rfl
