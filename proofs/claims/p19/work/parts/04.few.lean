theorem goodIn_self {ws : List Cond} (h : ws.all goodWord = true) : GoodIn ws ws := goodIn_sub (fun _ h => h) h
theorem goodIn_few {big small ws : List Cond} (h : ∀ w ∈ small, w ∈ big) (hg : GoodIn small ws) : GoodIn big ws := fun w hw => ⟨h w (hg w hw).1, (hg w hw).2⟩
set_option maxRecDepth 20000 in
theorem gb_0 : GoodIn (wsX110) (wsX110) := goodIn_self (by decide +kernel)
set_option maxRecDepth 20000 in
theorem gb_1 : GoodIn (wsX00) (wsX00) := goodIn_self (by decide +kernel)
set_option maxRecDepth 20000 in
theorem gb_2 : GoodIn (wsX20) (wsX20) := goodIn_self (by decide +kernel)
set_option maxRecDepth 20000 in
theorem gb_3 : GoodIn (wsX40) (wsX40) := goodIn_self (by decide +kernel)
set_option maxRecDepth 20000 in
theorem gb_4 : GoodIn (wsX80) (wsX80) := goodIn_self (by decide +kernel)
set_option maxRecDepth 20000 in
theorem gb_5 : GoodIn (wsX90) (wsX90) := goodIn_self (by decide +kernel)
set_option maxRecDepth 20000 in
theorem gb_6 : GoodIn (wsX60) (wsX60) := goodIn_self (by decide +kernel)
set_option maxRecDepth 20000 in
theorem gb_7 : GoodIn (wsX70) (wsX70) := goodIn_self (by decide +kernel)
set_option maxRecDepth 20000 in
theorem gb_8 : GoodIn (wsX30) (wsX30) := goodIn_self (by decide +kernel)
set_option maxRecDepth 20000 in
theorem gb_9 : GoodIn (wsX100) (wsX100) := goodIn_self (by decide +kernel)
set_option maxRecDepth 20000 in
theorem gb_10 : GoodIn (wsX50) (wsX50) := goodIn_self (by decide +kernel)
set_option maxRecDepth 20000 in
theorem gb_11 : GoodIn (wsX10) (wsX10) := goodIn_self (by decide +kernel)
