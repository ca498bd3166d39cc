theorem zz_24_tokens : True := trivial
