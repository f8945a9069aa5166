set_option maxRecDepth 20000 in
theorem m728 : Cond.static Lib.Math.max.name ∈ gd := gd_mem 728 (by decide +kernel) (by decide +kernel)
set_option maxRecDepth 20000 in
theorem m729 : Cond.code Lib.Math.max.name Lib.Math.max.code 2 (some .int) ∈ gd := gd_mem 729 (by decide +kernel) (by decide +kernel)
set_option maxRecDepth 20000 in
theorem m1069 : Cond.methodLink RX11 194 yX11_isEndless ∈ gd := gd_mem 1069 (by decide +kernel) (by decide +kernel)
set_option maxRecDepth 20000 in
theorem m1070 : Cond.static yX11_isEndless ∈ gd := gd_mem 1070 (by decide +kernel) (by decide +kernel)
set_option maxRecDepth 20000 in
theorem m1071 : Cond.code yX11_isEndless cX11_isEndless 3 (some .boolean) ∈ gd := gd_mem 1071 (by decide +kernel) (by decide +kernel)
set_option maxRecDepth 20000 in
theorem m1076 : Cond.methodLink RX11 197 yX11_beginnings ∈ gd := gd_mem 1076 (by decide +kernel) (by decide +kernel)
set_option maxRecDepth 20000 in
theorem m1077 : Cond.static yX11_beginnings ∈ gd := gd_mem 1077 (by decide +kernel) (by decide +kernel)
set_option maxRecDepth 20000 in
theorem m1078 : Cond.code yX11_beginnings cX11_beginnings 6 (some .int) ∈ gd := gd_mem 1078 (by decide +kernel) (by decide +kernel)
set_option maxRecDepth 20000 in
theorem m1079 : Cond.methodLink RX11 295 yX11_commonDivisor ∈ gd := gd_mem 1079 (by decide +kernel) (by decide +kernel)
set_option maxRecDepth 20000 in
theorem m1080 : Cond.static yX11_commonDivisor ∈ gd := gd_mem 1080 (by decide +kernel) (by decide +kernel)
set_option maxRecDepth 20000 in
theorem m1081 : Cond.code yX11_commonDivisor cX11_commonDivisor 7 (some .long) ∈ gd := gd_mem 1081 (by decide +kernel) (by decide +kernel)
set_option maxRecDepth 20000 in
theorem m1082 : Cond.methodLink RX11 368 Lib.Math.max.name ∈ gd := gd_mem 1082 (by decide +kernel) (by decide +kernel)
set_option maxRecDepth 20000 in
theorem m1788 : Cond.methodLink RX12 348 yX12_truth ∈ gd := gd_mem 1788 (by decide +kernel) (by decide +kernel)
set_option maxRecDepth 20000 in
theorem m1789 : Cond.static yX12_truth ∈ gd := gd_mem 1789 (by decide +kernel) (by decide +kernel)
set_option maxRecDepth 20000 in
theorem m1790 : Cond.code yX12_truth cX12_truth 1 (some .int) ∈ gd := gd_mem 1790 (by decide +kernel) (by decide +kernel)
set_option maxRecDepth 20000 in
theorem m1907 : Cond.methodLink RX12 536 yX12_areSlabs ∈ gd := gd_mem 1907 (by decide +kernel) (by decide +kernel)
set_option maxRecDepth 20000 in
theorem m1908 : Cond.static yX12_areSlabs ∈ gd := gd_mem 1908 (by decide +kernel) (by decide +kernel)
set_option maxRecDepth 20000 in
theorem m1909 : Cond.code yX12_areSlabs cX12_areSlabs 3 (some .boolean) ∈ gd := gd_mem 1909 (by decide +kernel) (by decide +kernel)
set_option maxRecDepth 20000 in
theorem m1910 : Cond.methodLink RX12 539 yX12_firstOf ∈ gd := gd_mem 1910 (by decide +kernel) (by decide +kernel)
set_option maxRecDepth 20000 in
theorem m1911 : Cond.static yX12_firstOf ∈ gd := gd_mem 1911 (by decide +kernel) (by decide +kernel)
set_option maxRecDepth 20000 in
theorem m1912 : Cond.code yX12_firstOf cX12_firstOf 7 (some .int) ∈ gd := gd_mem 1912 (by decide +kernel) (by decide +kernel)
set_option maxRecDepth 20000 in
theorem m1913 : Cond.methodLink RX12 532 yX12_isPlain ∈ gd := gd_mem 1913 (by decide +kernel) (by decide +kernel)
set_option maxRecDepth 20000 in
theorem m1914 : Cond.static yX12_isPlain ∈ gd := gd_mem 1914 (by decide +kernel) (by decide +kernel)
set_option maxRecDepth 20000 in
theorem m1915 : Cond.code yX12_isPlain cX12_isPlain 6 (some .boolean) ∈ gd := gd_mem 1915 (by decide +kernel) (by decide +kernel)
set_option maxRecDepth 20000 in
theorem m1920 : Cond.methodLink RX12 543 yX12_beginOf ∈ gd := gd_mem 1920 (by decide +kernel) (by decide +kernel)
set_option maxRecDepth 20000 in
theorem m1921 : Cond.static yX12_beginOf ∈ gd := gd_mem 1921 (by decide +kernel) (by decide +kernel)
set_option maxRecDepth 20000 in
theorem m1922 : Cond.code yX12_beginOf cX12_beginOf 6 (some .int) ∈ gd := gd_mem 1922 (by decide +kernel) (by decide +kernel)
