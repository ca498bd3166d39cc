theorem zz_8b_lowj : True := trivial
