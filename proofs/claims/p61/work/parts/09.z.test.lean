theorem tgk_10 : GOK mr_10 := GOK_of (by decide +kernel)
theorem tgk_11 : GOK mr_11 := GOK_of (by decide +kernel)
